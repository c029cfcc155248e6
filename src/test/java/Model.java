import java.math.BigInteger;
import java.util.ArrayList;
import java.util.List;
import java.util.regex.Matcher;
import java.util.regex.Pattern;

/** The document told a second time, slowly and without any care for room: what the program is compared with. */
final class Model {
    private static final String KINDS = "psrblc";
    private static final String STATEMENT = "(?:p[psrblc][0-9]{3}|h[0-9]{4}|[csmd][0-9]{2});";

    private static final class Person {
        int kind;
        int figure;
        int place;
        int got;
    }

    private static final class Parcel {
        int to;
        int worth;
        String is = "WAITS";
        int left;
        int by = -9;
    }

    private static final class World {
        final List<Person> people = new ArrayList<>();
        final List<Parcel> parcels = new ArrayList<>();
        final int[][] hate = new int[6][6];
        int day;

        World copy() {
            World other = new World();
            for (Person p : people) {
                Person q = new Person();
                q.kind = p.kind;
                q.figure = p.figure;
                q.place = p.place;
                q.got = p.got;
                other.people.add(q);
            }
            for (Parcel p : parcels) {
                Parcel q = new Parcel();
                q.to = p.to;
                q.worth = p.worth;
                q.is = p.is;
                q.left = p.left;
                q.by = p.by;
                other.parcels.add(q);
            }
            for (int i = 0; i < 6; i++) {
                other.hate[i] = hate[i].clone();
            }
            other.day = day;
            return other;
        }

        boolean person(int i) {
            return 0 <= i && i < people.size();
        }

        boolean pair(int a, int b) {
            return person(a) && person(b) && a != b;
        }

        int apart(int a, int b) {
            return Math.abs(people.get(a).place - people.get(b).place);
        }

        /** By the line of kinds: what each is under. */
        int malice(int a, int b) {
            return maliceAs(people.get(a).kind, a, b);
        }

        private int maliceAs(int kind, int a, int b) {
            switch (KINDS.charAt(kind)) {
                case 'p':
                    return hate[a][b];
                case 's':
                    return maliceAs(0, a, b) / 2;
                case 'r':
                    return maliceAs(0, a, b) + (hate[a][b] > 0 ? people.get(a).figure : 0);
                case 'b':
                    return 2 * maliceAs(2, a, b);
                case 'l':
                    return maliceAs(1, a, b) + people.get(a).figure;
                default:
                    return apart(a, b) >= 10 ? 0 : maliceAs(3, a, b);
            }
        }

        int miles(int kind) {
            switch (KINDS.charAt(kind)) {
                case 'p':
                    return 2;
                case 's':
                    return miles(0) - 1;
                case 'r':
                    return miles(0) + 1;
                case 'b':
                    return miles(2);
                case 'l':
                    return 3;
                default:
                    return miles(3) + 1;
            }
        }

        int enemyAmong(int one, List<Integer> others) {
            int best = -9;
            for (int o : others) {
                if (malice(o, one) >= 5 && (best == -9 || malice(o, one) > malice(best, one))) {
                    best = o;
                }
            }
            return best;
        }

        List<Integer> others(int one) {
            List<Integer> all = new ArrayList<>();
            for (int i = 0; i < people.size(); i++) {
                if (i != one) {
                    all.add(i);
                }
            }
            return all;
        }

        int enemy(int one) {
            return enemyAmong(one, others(one));
        }

        int second(int one) {
            List<Integer> all = others(one);
            all.remove(Integer.valueOf(enemy(one)));
            return enemyAmong(one, all);
        }

        boolean busy(int one) {
            return parcels.stream().anyMatch(p -> p.is.equals("CARRIED") && p.by == one);
        }

        void slight(int one, int other) {
            hate[one][other] = Math.min(99, hate[one][other] + 10);
        }

        void peace(int one, int other) {
            hate[one][other] /= 2;
            hate[other][one] /= 2;
        }

        void day(boolean snow) {
            day++;
            for (Parcel p : parcels) {
                if (p.is.equals("CARRIED") && !snow) {
                    p.left--;
                    if (p.left == 0) {
                        p.is = "BROUGHT";
                        people.get(p.to).got = Math.min(999, people.get(p.to).got + 1);
                        hate[p.by][p.to] = Math.max(0, hate[p.by][p.to] - p.worth);
                    }
                }
            }
            for (Parcel p : parcels) {
                if (p.is.equals("WAITS")) {
                    int e = enemy(p.to);
                    if (e != -9 && !busy(e)) {
                        p.is = "CARRIED";
                        p.by = e;
                        int m = miles(people.get(e).kind);
                        p.left = 1;
                        for (int gone = 0; gone < apart(e, p.to); gone += m) {
                            p.left++;
                        }
                    }
                }
            }
            if (day % 7 == 0) {
                for (int[] of : hate) {
                    for (int i = 0; i < 6; i++) {
                        of[i] = Math.max(0, of[i] - 1);
                    }
                }
            }
        }

        World on(int n) {
            World w = copy();
            for (int i = 0; i < n; i++) {
                w.day(false);
            }
            return w;
        }

        int brought() {
            return (int) parcels.stream().filter(p -> p.is.equals("BROUGHT")).count();
        }

        int broughtTo(int one) {
            return (int) parcels.stream().filter(p -> p.is.equals("BROUGHT") && p.to == one).count();
        }

        /** 1000 if not within 99 days. */
        int when(int parcel) {
            World w = copy();
            for (int i = 0; i <= 99; i++) {
                if (w.parcels.get(parcel).is.equals("BROUGHT")) {
                    return i;
                }
                w.day(false);
            }
            return 1000;
        }

        int hates() {
            int sum = 0;
            for (int[] of : hate) {
                for (int h : of) {
                    sum += h;
                }
            }
            return sum;
        }

        int bits(String is) {
            int bits = 0;
            for (int i = 0; i < parcels.size(); i++) {
                if (parcels.get(i).is.equals(is)) {
                    bits += 1 << i;
                }
            }
            return bits;
        }

        boolean add(int kind, int figure, int place) {
            if (people.size() == 6 || place > 30) {
                return false;
            }
            Person p = new Person();
            p.kind = kind;
            p.figure = figure;
            p.place = place;
            return people.add(p);
        }

        boolean send(int to, int worth) {
            if (parcels.size() == 8 || !person(to)) {
                return false;
            }
            Parcel p = new Parcel();
            p.to = to;
            p.worth = worth;
            return parcels.add(p);
        }

        boolean statement(String s) {
            int[] d = s.chars().map(c -> c - '0').toArray();
            switch (s.charAt(0)) {
                case 'p':
                    return add(KINDS.indexOf(s.charAt(1)), d[2], 10 * d[3] + d[4]);
                case 'h':
                    if (pair(d[1], d[2])) {
                        hate[d[1]][d[2]] = 10 * d[3] + d[4];
                    }
                    return pair(d[1], d[2]);
                case 'c':
                    return send(d[1], d[2]);
                case 's':
                    if (pair(d[1], d[2])) {
                        slight(d[1], d[2]);
                    }
                    return pair(d[1], d[2]);
                case 'm':
                    if (pair(d[1], d[2])) {
                        peace(d[1], d[2]);
                    }
                    return pair(d[1], d[2]);
                default:
                    int n = 10 * d[1] + d[2];
                    if (n < 1 || n > 60 || day + n > 999) {
                        return false;
                    }
                    for (int i = 0; i < n; i++) {
                        day(false);
                    }
                    return true;
            }
        }
    }

    private World w = new World();
    private World taken = null;
    private String letters = "";
    private final List<Integer> row = new ArrayList<>();
    private final int[] refusals = new int[7];

    private int no(int why) {
        refusals[-why]++;
        return why;
    }

    private long noLong(int why) {
        return 4000000000000000000L - no(why);
    }

    private boolean parcelThere(int i) {
        return 0 <= i && i < w.parcels.size();
    }

    private static boolean among(int what, int most) {
        return 0 <= what && what <= most;
    }

    int letter(int c) {
        if (c < 0) {
            return no(-4);
        }
        if (c > 255 || letters.length() == 96) {
            return no(-6);
        }
        letters += (char) c;
        return letters.length();
    }

    int duchy() {
        String text = letters;
        letters = "";
        Pattern whole = Pattern.compile("(?:" + STATEMENT + ")+");
        for (int i = 1; i <= text.length(); i++) {
            Matcher m = whole.matcher(text.substring(0, i));
            if (!m.matches() && !m.hitEnd()) {
                return -1000 - (i - 1);
            }
        }
        if (!whole.matcher(text).matches()) {
            return -1000 - text.length();
        }
        World trial = w.copy();
        Matcher each = Pattern.compile(STATEMENT).matcher(text);
        int many = 0;
        while (each.find()) {
            if (!trial.statement(each.group())) {
                return -2000 - each.start();
            }
            many++;
        }
        w = trial;
        return many;
    }

    int person(int person, int what) {
        if (!w.person(person)) {
            return no(-1);
        }
        Person p = w.people.get(person);
        switch (what) {
            case 0:
                return p.kind;
            case 1:
                return p.figure;
            case 2:
                return p.place;
            case 3:
                return p.got;
            case 4:
                return w.miles(p.kind);
            case 5:
                return w.busy(person) ? 1 : 0;
            default:
                return no(-2);
        }
    }

    private static int number(String is) {
        return List.of("WAITS", "CARRIED", "BROUGHT").indexOf(is);
    }

    int parcel(int parcel, int what) {
        if (!parcelThere(parcel)) {
            return no(-1);
        }
        Parcel p = w.parcels.get(parcel);
        switch (what) {
            case 0:
                return p.to;
            case 1:
                return p.worth;
            case 2:
                return number(p.is);
            case 3:
                return p.is.equals("CARRIED") ? p.left : 0;
            case 4:
                return p.by;
            default:
                return no(-2);
        }
    }

    int hate(int one, int other) {
        return w.pair(one, other) ? w.hate[one][other] : no(-1);
    }

    int posts(int to, int worth) {
        if (!w.person(to)) {
            return no(-1);
        }
        if (worth < 0) {
            return no(-4);
        }
        return worth <= 9 && w.send(to, worth) ? w.parcels.size() - 1 : no(-6);
    }

    int hates(int one, int other, int v) {
        if (!w.pair(one, other)) {
            return no(-1);
        }
        if (v < 0 || v > 99) {
            return no(v < 0 ? -4 : -6);
        }
        int was = w.hate[one][other];
        w.hate[one][other] = v;
        return was;
    }

    int slights(int one, int other) {
        if (!w.pair(one, other)) {
            return no(-1);
        }
        w.slight(one, other);
        return w.hate[one][other];
    }

    int peace(int one, int other) {
        if (!w.pair(one, other)) {
            return no(-1);
        }
        w.peace(one, other);
        return w.hate[one][other] + w.hate[other][one];
    }

    int moves(int person, int place) {
        if (!w.person(person)) {
            return no(-1);
        }
        if (place < 0 || place > 30) {
            return no(place < 0 ? -4 : -6);
        }
        int was = w.people.get(person).place;
        w.people.get(person).place = place;
        return was;
    }

    int turn(int person, int kind, int figure) {
        if (!w.person(person)) {
            return no(-1);
        }
        if (!among(kind, 5)) {
            return no(-2);
        }
        if (!among(figure, 9)) {
            return no(figure < 0 ? -4 : -6);
        }
        Person p = w.people.get(person);
        int was = 10 * p.kind + p.figure;
        p.kind = kind;
        p.figure = figure;
        return was;
    }

    int days(int n) {
        if (n < 1) {
            return no(-4);
        }
        if (n > 60 || w.day + n > 999) {
            return no(-6);
        }
        w = w.on(n);
        return w.brought();
    }

    int parcelThen(int parcel, int n, int what) {
        if (!parcelThere(parcel)) {
            return no(-1);
        }
        if (!among(n, 99)) {
            return no(n < 0 ? -4 : -6);
        }
        if (!among(what, 1)) {
            return no(-2);
        }
        Parcel p = w.on(n).parcels.get(parcel);
        return what == 0 ? number(p.is) : p.by;
    }

    int hateThen(int one, int other, int n) {
        if (!w.pair(one, other)) {
            return no(-1);
        }
        if (!among(n, 99)) {
            return no(n < 0 ? -4 : -6);
        }
        return w.on(n).hate[one][other];
    }

    int gotThen(int n, int person) {
        if (!among(n, 99)) {
            return no(n < 0 ? -4 : -6);
        }
        if (person != -1 && !w.person(person)) {
            return no(-1);
        }
        return person == -1 ? w.on(n).brought() : w.on(n).people.get(person).got;
    }

    private static int orNone(int days) {
        return days > 99 ? -9 : days;
    }

    int when(int parcel) {
        return parcelThere(parcel) ? orNone(w.when(parcel)) : no(-1);
    }

    int first(int what) {
        if (!among(what, 2)) {
            return no(-2);
        }
        int first = -9;
        int least = 1000;
        int most = 0;
        for (int i = 0; i < w.parcels.size(); i++) {
            int when = w.when(i);
            most = Math.max(most, when);
            if (when > 0 && when < least) {
                least = when;
                first = i;
            }
        }
        return what == 0 ? first : orNone(what == 1 ? least : most);
    }

    int enemy(int person, int what) {
        if (!w.person(person)) {
            return no(-1);
        }
        if (!among(what, 1)) {
            return no(-2);
        }
        return what == 0 ? w.enemy(person) : w.second(person);
    }

    int malice(int one, int other) {
        return w.pair(one, other) ? w.malice(one, other) : no(-1);
    }

    int loved() {
        int bits = 0;
        for (int i = 0; i < w.people.size(); i++) {
            bits += w.enemy(i) == -9 ? 1 << i : 0;
        }
        return bits;
    }

    int busiest(int what) {
        if (!among(what, 1)) {
            return no(-2);
        }
        int[] of = new int[6];
        for (int i = 0; i < w.people.size(); i++) {
            if (w.enemy(i) != -9) {
                of[w.enemy(i)]++;
            }
        }
        int best = 0;
        for (int i = 5; i >= 0; i--) {
            best = of[i] >= of[best] ? i : best;
        }
        if (of[best] == 0) {
            return what == 0 ? -9 : 0;
        }
        return what == 0 ? best : of[best];
    }

    int ring(int person, int what) {
        if (!w.person(person)) {
            return no(-1);
        }
        if (!among(what, 1)) {
            return no(-2);
        }
        List<Integer> met = new ArrayList<>();
        int at = person;
        while (at != -9 && !met.contains(at)) {
            met.add(at);
            at = w.enemy(at);
        }
        return what == 0 ? met.size() : at == -9 ? 0 : 1;
    }

    private boolean waits(int parcel) {
        return w.parcels.get(parcel).is.equals("WAITS");
    }

    int slight(int parcel) {
        if (!parcelThere(parcel)) {
            return no(-1);
        }
        if (!waits(parcel)) {
            return no(-3);
        }
        int to = w.parcels.get(parcel).to;
        int best = -9;
        int days = w.when(parcel);
        for (int o : w.others(to)) {
            World then = w.copy();
            then.slight(o, to);
            if (then.when(parcel) < days) {
                days = then.when(parcel);
                best = o;
            }
        }
        return best;
    }

    private boolean can(World from, int parcel, int n, int slights) {
        if (slights == 0) {
            return from.when(parcel) <= n;
        }
        int to = from.parcels.get(parcel).to;
        for (int o : from.others(to)) {
            World then = from.copy();
            then.slight(o, to);
            if (can(then, parcel, n, slights - 1)) {
                return true;
            }
        }
        return false;
    }

    int cost(int parcel, int n) {
        if (!parcelThere(parcel)) {
            return no(-1);
        }
        if (n < 1 || n > 60) {
            return no(n < 1 ? -4 : -6);
        }
        if (!waits(parcel)) {
            return no(-3);
        }
        for (int k = 0; k <= 3; k++) {
            if (can(w, parcel, n, k)) {
                return k;
            }
        }
        return -9;
    }

    int makeUp(int parcel) {
        if (!parcelThere(parcel)) {
            return no(-1);
        }
        if (!waits(parcel)) {
            return no(-3);
        }
        int to = w.parcels.get(parcel).to;
        int worst = -9;
        int days = w.when(parcel);
        for (int o : w.others(to)) {
            World then = w.copy();
            then.peace(o, to);
            if (then.when(parcel) > days) {
                days = then.when(parcel);
                worst = o;
            }
        }
        return worst;
    }

    int post(int person, int what) {
        if (!w.person(person)) {
            return no(-1);
        }
        if (!among(what, 1)) {
            return no(-2);
        }
        int best = -9;
        int soonest = 1000;
        for (int d = 0; d <= 30 && w.parcels.size() < 8; d++) {
            World then = w.on(d);
            then.send(person, 0);
            int days = d + then.when(w.parcels.size());
            if (days <= 99 && days < soonest) {
                soonest = days;
                best = d;
            }
        }
        return what == 0 ? best : orNone(soonest);
    }

    int road(int one, int other) {
        return w.pair(one, other) ? w.apart(one, other) : no(-1);
    }

    int farthest() {
        int best = -9;
        int most = -1;
        for (int a = 0; a < w.people.size(); a++) {
            for (int b = a + 1; b < w.people.size(); b++) {
                if (w.apart(a, b) > most) {
                    most = w.apart(a, b);
                    best = 10 * a + b;
                }
            }
        }
        return best;
    }

    int fair(int what) {
        if (!among(what, 2)) {
            return no(-2);
        }
        int pairs = 0;
        int best = -9;
        int most = -9;
        for (int a = 0; a < w.people.size(); a++) {
            int sum = 0;
            for (int o : w.others(a)) {
                sum += w.malice(o, a);
                pairs += w.enemy(a) == o && w.enemy(o) == a ? 1 : 0;
            }
            if (sum > most) {
                most = sum;
                best = a;
            }
        }
        return what == 0 ? best : what == 1 ? most : pairs / 2;
    }

    private int gain(int a, int b, int n, int x, int y, int whose) {
        World then = w.copy();
        if (x == 1) {
            then.slight(b, a);
        }
        if (y == 1) {
            then.slight(a, b);
        }
        return then.on(n).broughtTo(whose);
    }

    int two(int a, int b, int n) {
        if (!w.pair(a, b)) {
            return no(-1);
        }
        if (n < 1 || n > 60) {
            return no(n < 1 ? -4 : -6);
        }
        for (int x = 0; x <= 1; x++) {
            for (int y = 0; y <= 1; y++) {
                boolean firstStays = gain(a, b, n, 1 - x, y, a) <= gain(a, b, n, x, y, a);
                boolean otherStays = gain(a, b, n, x, 1 - y, b) <= gain(a, b, n, x, y, b);
                if (firstStays && otherStays) {
                    return 10 * x + y;
                }
            }
        }
        return -9;
    }

    /** The chance by t to the n-th. */
    private BigInteger chance(World at, int parcel, int n, int t) {
        if (n == 0) {
            return at.parcels.get(parcel).is.equals("BROUGHT") ? BigInteger.ONE : BigInteger.ZERO;
        }
        World snow = at.copy();
        snow.day(true);
        World none = at.copy();
        none.day(false);
        return chance(snow, parcel, n - 1, t).add(chance(none, parcel, n - 1, t).multiply(BigInteger.valueOf(t - 1)));
    }

    private static long part(BigInteger above, BigInteger below, int part) {
        BigInteger by = above.gcd(below);
        return (part == 0 ? above : below).divide(by).longValueExact();
    }

    long snow(int parcel, int n, int t, int part) {
        if (!parcelThere(parcel)) {
            return noLong(-1);
        }
        if (n < 0 || t < 2) {
            return noLong(-4);
        }
        if (n > 7 || t > 20) {
            return noLong(-6);
        }
        if (!among(part, 1)) {
            return noLong(-2);
        }
        return part(chance(w, parcel, n, t), BigInteger.valueOf(t).pow(n), part);
    }

    long mean(int part) {
        if (!among(part, 1)) {
            return noLong(-2);
        }
        int n = w.people.size();
        return n < 2 ? part : part(BigInteger.valueOf(w.hates()), BigInteger.valueOf(n * (n - 1)), part);
    }

    int who(int parcel, int person, int what) {
        if (!parcelThere(parcel) || !w.person(person)) {
            return no(-1);
        }
        if (!among(what, 1)) {
            return no(-2);
        }
        int bits = 0;
        for (int v = 0; v < (what == 0 ? 6 : 10); v++) {
            World told = w.copy();
            if (what == 0) {
                told.people.get(person).kind = v;
            } else {
                told.people.get(person).figure = v;
            }
            boolean so = true;
            for (int i = 0; i < row.size(); i++) {
                int by = told.on(i).parcels.get(parcel).by;
                so &= row.get(i) == (by == -9 ? 9 : by);
            }
            bits += so ? 1 << v : 0;
        }
        return bits;
    }

    int row(int v) {
        if (v < 0) {
            return no(-4);
        }
        if (v > 99 || row.size() == 16) {
            return no(-6);
        }
        row.add(v);
        return row.size();
    }

    int judge() {
        int first = -9;
        for (int i = row.size() - 1; i >= 0; i--) {
            boolean so = w.person(i) && row.get(i) == (w.enemy(i) == -9 ? 9 : w.enemy(i));
            first = so ? first : i;
        }
        row.clear();
        return first;
    }

    int clear() {
        int many = row.size();
        row.clear();
        return many;
    }

    int lots(int n, int z, int what) {
        if (n < 1 || n > 20) {
            return no(n < 1 ? -4 : -6);
        }
        if (!among(what, 1)) {
            return no(-2);
        }
        int sum = 0;
        int seed = z;
        for (int i = 0; i < n; i++) {
            World drawn = w.copy();
            for (int a = 0; a < w.people.size(); a++) {
                for (int b : w.others(a)) {
                    seed = (int) (seed * 1664525L + 1013904223L);
                    drawn.hate[a][b] = (int) ((seed & 0xffffffffL) % (1L << 31) / 256 % 30);
                }
            }
            drawn = drawn.on(15);
            sum += what == 0 ? drawn.brought() : drawn.hates();
        }
        return sum;
    }

    int image() {
        taken = w.copy();
        return w.day;
    }

    int on() {
        if (taken == null) {
            return no(-3);
        }
        w = taken.copy();
        return w.day;
    }

    int count(int what) {
        switch (what) {
            case 0:
                return w.people.size();
            case 1:
                return w.parcels.size();
            case 2:
                return w.day;
            case 3:
                return w.bits("WAITS");
            case 4:
                return w.bits("BROUGHT");
            case 5:
                return w.hates();
            case 6:
                return row.size();
            case 7:
                return letters.length();
            default:
                return 11 <= what && what <= 16 ? refusals[what - 10] : -9;
        }
    }
}
