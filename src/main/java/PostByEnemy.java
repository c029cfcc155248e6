/** A duchy whose post is carried by whoever hates the receiver most; ../shared/DOC.md says what it must do. */
public final class PostByEnemy {
    private static final int MOST_PEOPLE = 6;
    private static final int MOST_PARCELS = 8;
    private static final int MOST_PLACE = 30;
    private static final int MOST_FIGURE = 9;
    private static final int MOST_WORTH = 9;
    private static final int MOST_HATE = 99;
    private static final int MOST_GOT = 999;
    private static final int MOST_DATE = 999;
    private static final int MOST_LETTERS = 96;
    private static final int MOST_SIGN = 255;
    private static final int MOST_TOLD = 16;
    private static final int MOST_NUMBER = 99;
    private static final int MOST_DAYS = 60;
    private static final int MOST_DUCHIES = 20;
    private static final int MOST_SNOW = 7;
    private static final int LEAST_ODDS = 2;
    private static final int MOST_ODDS = 20;

    private static final int KINDS = 6;
    private static final int PERSON = 0;
    private static final int SAINT = 1;
    private static final int RIVAL = 2;
    private static final int BULLY = 3;
    private static final int LOVER = 4;
    private static final int COWARD = 5;

    private static final int WAITS = 0;
    private static final int CARRIED = 1;
    private static final int BROUGHT = 2;

    private static final int LEAST_MALICE = 5;
    private static final int FEARED_APART = 10;
    private static final int SLIGHT = 10;
    private static final int MOST_SLIGHTS = 3;
    private static final int WEEK = 7;
    private static final int LAST_THOUGHT = 99;
    private static final int LAST_POSTING = 30;
    private static final int DRAWN_BELOW = 30;
    private static final int DRAWN_DAYS = 15;
    private static final int WITHOUT_SIGN = 0x7fffffff;

    /** Later than every day that is thought of. */
    private static final int NEVER = 100;
    /** The answer where there is none. */
    private static final int NONE = -9;
    /** How a ROW writes that it is nobody. */
    private static final int TOLD_NOBODY = 9;

    private static final int NOBODY = -1;
    private static final int OTHER = -2;
    private static final int STATE = -3;
    private static final int BELOW = -4;
    private static final int ROOM = -6;
    private static final int REFUSALS = 6;
    private static final int FIRST_REFUSAL_COUNT = 10;
    private static final long LONG_REFUSAL = 4000000000000000000L;

    private static final int MISFIT_FAULT = -1000;
    private static final int WRONG_FAULT = -2000;

    private final Duchy now = new Duchy();
    private final Duchy taken = new Duchy();
    private boolean isTaken = false;
    private final Thought thought = new Thought();
    private final Text text = new Text();
    private final Row told = new Row();
    private final int[] refused = new int[REFUSALS + 1];

    public PostByEnemy() {
    }

    public int letter(int c) {
        if (c < 0) {
            return refuse(BELOW);
        }
        if (c > MOST_SIGN || text.size >= MOST_LETTERS) {
            return refuse(ROOM);
        }
        text.add(c);
        return text.size;
    }

    public int duchy() {
        int misfit = text.firstMisfit();
        // It is told to a duchy in mind first, so that with a FAULT nothing of it comes.
        Duchy mind = thought.behind(now, 0);
        int statements = 0;
        int place = 0;
        while (misfit < 0 && place < text.size && text.tell(place, mind)) {
            place += Math.max(1, text.lengthAt(place));
            statements++;
        }
        boolean isWhole = place >= text.size;
        text.size = 0;
        if (misfit >= 0) {
            return MISFIT_FAULT - misfit;
        }
        if (!isWhole) {
            return WRONG_FAULT - place;
        }
        now.become(mind);
        return statements;
    }

    public int person(int person, int what) {
        if (!now.hasPerson(person)) {
            return refuse(NOBODY);
        }
        if (what < 0 || what > 5) {
            return refuse(OTHER);
        }
        return now.ofPerson(person, what);
    }

    public int parcel(int parcel, int what) {
        if (!now.hasParcel(parcel)) {
            return refuse(NOBODY);
        }
        if (what < 0 || what > 4) {
            return refuse(OTHER);
        }
        return now.ofParcel(parcel, what);
    }

    public int hate(int one, int other) {
        if (!now.hasPair(one, other)) {
            return refuse(NOBODY);
        }
        return now.hateOf(one, other);
    }

    public int posts(int to, int worth) {
        if (!now.hasPerson(to)) {
            return refuse(NOBODY);
        }
        if (worth < 0) {
            return refuse(BELOW);
        }
        if (worth > MOST_WORTH || now.parcels >= MOST_PARCELS) {
            return refuse(ROOM);
        }
        now.addParcel(to, worth);
        return now.parcels - 1;
    }

    public int hates(int one, int other, int v) {
        if (!now.hasPair(one, other)) {
            return refuse(NOBODY);
        }
        if (v < 0) {
            return refuse(BELOW);
        }
        if (v > MOST_HATE) {
            return refuse(ROOM);
        }
        int was = now.hateOf(one, other);
        now.setHate(one, other, v);
        return was;
    }

    public int slights(int one, int other) {
        if (!now.hasPair(one, other)) {
            return refuse(NOBODY);
        }
        now.addHate(one, other, SLIGHT);
        return now.hateOf(one, other);
    }

    public int peace(int one, int other) {
        if (!now.hasPair(one, other)) {
            return refuse(NOBODY);
        }
        now.makePeace(one, other);
        return now.hateOf(one, other) + now.hateOf(other, one);
    }

    public int moves(int person, int place) {
        if (!now.hasPerson(person)) {
            return refuse(NOBODY);
        }
        if (place < 0) {
            return refuse(BELOW);
        }
        if (place > MOST_PLACE) {
            return refuse(ROOM);
        }
        int was = now.places[person];
        now.places[person] = place;
        return was;
    }

    public int turn(int person, int kind, int figure) {
        if (!now.hasPerson(person)) {
            return refuse(NOBODY);
        }
        if (kind < 0 || kind >= KINDS) {
            return refuse(OTHER);
        }
        if (figure < 0) {
            return refuse(BELOW);
        }
        if (figure > MOST_FIGURE) {
            return refuse(ROOM);
        }
        int was = 10 * now.kinds[person] + now.figures[person];
        now.kinds[person] = kind;
        now.figures[person] = figure;
        return was;
    }

    public int days(int n) {
        if (n < 1) {
            return refuse(BELOW);
        }
        if (n > MOST_DAYS || now.date + n > MOST_DATE) {
            return refuse(ROOM);
        }
        now.passDays(n);
        return now.brought();
    }

    public int parcelThen(int parcel, int n, int what) {
        if (!now.hasParcel(parcel)) {
            return refuse(NOBODY);
        }
        if (n < 0) {
            return refuse(BELOW);
        }
        if (n > LAST_THOUGHT) {
            return refuse(ROOM);
        }
        if (what < 0 || what > 1) {
            return refuse(OTHER);
        }
        Duchy then = thought.behind(now, n);
        return what == 0 ? then.stateOf(parcel) : then.carrierOf(parcel);
    }

    public int hateThen(int one, int other, int n) {
        if (!now.hasPair(one, other)) {
            return refuse(NOBODY);
        }
        if (n < 0) {
            return refuse(BELOW);
        }
        if (n > LAST_THOUGHT) {
            return refuse(ROOM);
        }
        return thought.behind(now, n).hateOf(one, other);
    }

    public int gotThen(int n, int person) {
        if (n < 0) {
            return refuse(BELOW);
        }
        if (n > LAST_THOUGHT) {
            return refuse(ROOM);
        }
        if (person != -1 && !now.hasPerson(person)) {
            return refuse(NOBODY);
        }
        Duchy then = thought.behind(now, n);
        return person == -1 ? then.brought() : then.gots[person];
    }

    public int when(int parcel) {
        if (!now.hasParcel(parcel)) {
            return refuse(NOBODY);
        }
        return dayOrNone(daysTillBrought(thought.behind(now, 0), parcel, LAST_THOUGHT));
    }

    public int first(int what) {
        if (what < 0 || what > 2) {
            return refuse(OTHER);
        }
        if (what == 2) {
            return dayOrNone(thought.daysTillAll(now));
        }
        int parcel = thought.firstBrought(now);
        if (what == 0 || parcel == NONE) {
            return parcel;
        }
        return dayOrNone(daysTillBrought(thought.behind(now, 0), parcel, LAST_THOUGHT));
    }

    public int enemy(int person, int what) {
        if (!now.hasPerson(person)) {
            return refuse(NOBODY);
        }
        if (what < 0 || what > 1) {
            return refuse(OTHER);
        }
        int enemy = now.enemyOf(person, NONE);
        return what == 0 ? enemy : now.enemyOf(person, enemy);
    }

    public int malice(int one, int other) {
        if (!now.hasPair(one, other)) {
            return refuse(NOBODY);
        }
        return now.maliceOf(one, other);
    }

    public int loved() {
        int bits = 0;
        for (int person = 0; person < now.people; person++) {
            if (now.enemyOf(person, NONE) == NONE) {
                bits |= 1 << person;
            }
        }
        return bits;
    }

    public int busiest(int what) {
        if (what < 0 || what > 1) {
            return refuse(OTHER);
        }
        int who = NONE;
        int most = 0;
        for (int person = 0; person < now.people; person++) {
            int many = now.enemyOfHowMany(person);
            if (many > most) {
                most = many;
                who = person;
            }
        }
        return what == 0 ? who : most;
    }

    public int ring(int person, int what) {
        if (!now.hasPerson(person)) {
            return refuse(NOBODY);
        }
        if (what < 0 || what > 1) {
            return refuse(OTHER);
        }
        int seen = 0;
        int many = 0;
        int at = person;
        for (int step = 0; step < MOST_PEOPLE && at >= 0 && ((seen >> at) & 1) == 0; step++) {
            seen |= 1 << at;
            many++;
            at = now.enemyOf(at, NONE);
        }
        return what == 0 ? many : at >= 0 ? 1 : 0;
    }

    public int slight(int parcel) {
        int fault = notWaiting(parcel);
        return fault != 0 ? refuse(fault) : thought.bestSlight(now, parcel);
    }

    public int cost(int parcel, int n) {
        if (!now.hasParcel(parcel)) {
            return refuse(NOBODY);
        }
        if (n < 1) {
            return refuse(BELOW);
        }
        if (n > MOST_DAYS) {
            return refuse(ROOM);
        }
        if (now.stateOf(parcel) != WAITS) {
            return refuse(STATE);
        }
        for (int many = 0; many <= MOST_SLIGHTS; many++) {
            if (thought.isEnough(now, parcel, n, many)) {
                return many;
            }
        }
        return NONE;
    }

    public int makeUp(int parcel) {
        int fault = notWaiting(parcel);
        return fault != 0 ? refuse(fault) : thought.worstPeace(now, parcel);
    }

    public int post(int person, int what) {
        if (!now.hasPerson(person)) {
            return refuse(NOBODY);
        }
        if (what < 0 || what > 1) {
            return refuse(OTHER);
        }
        return thought.bestPosting(now, person, what == 1);
    }

    public int road(int one, int other) {
        if (!now.hasPair(one, other)) {
            return refuse(NOBODY);
        }
        return now.apart(one, other);
    }

    public int farthest() {
        int most = -1;
        int which = NONE;
        for (int one = 0; one < now.people; one++) {
            for (int other = one + 1; other < now.people; other++) {
                int apart = now.apart(one, other);
                if (apart > most) {
                    most = apart;
                    which = 10 * one + other;
                }
            }
        }
        return which;
    }

    public int fair(int what) {
        if (what < 0 || what > 2) {
            return refuse(OTHER);
        }
        if (what == 2) {
            return now.mutualEnemies();
        }
        int who = NONE;
        int most = NONE;
        for (int person = 0; person < now.people; person++) {
            int malice = now.maliceOfAll(person);
            if (malice > most) {
                most = malice;
                who = person;
            }
        }
        return what == 0 ? who : most;
    }

    public int two(int a, int b, int n) {
        if (!now.hasPair(a, b)) {
            return refuse(NOBODY);
        }
        if (n < 1) {
            return refuse(BELOW);
        }
        if (n > MOST_DAYS) {
            return refuse(ROOM);
        }
        return thought.court(now, a, b, n);
    }

    public long snow(int parcel, int n, int t, int part) {
        if (!now.hasParcel(parcel)) {
            return refuseLong(NOBODY);
        }
        if (n < 0 || t < LEAST_ODDS) {
            return refuseLong(BELOW);
        }
        if (n > MOST_SNOW || t > MOST_ODDS) {
            return refuseLong(ROOM);
        }
        if (part < 0 || part > 1) {
            return refuseLong(OTHER);
        }
        long all = 1;
        for (int day = 0; day < n; day++) {
            all *= t;
        }
        return partOf(thought.broughtOfAll(now, parcel, n, t), all, part);
    }

    public long mean(int part) {
        if (part < 0 || part > 1) {
            return refuseLong(OTHER);
        }
        return partOf(now.hatesTogether(), now.people * (now.people - 1), part);
    }

    public int who(int parcel, int person, int what) {
        if (!now.hasParcel(parcel) || !now.hasPerson(person)) {
            return refuse(NOBODY);
        }
        if (what < 0 || what > 1) {
            return refuse(OTHER);
        }
        return thought.fitting(now, parcel, person, what == 1, told);
    }

    public int row(int v) {
        if (v < 0) {
            return refuse(BELOW);
        }
        if (v > MOST_NUMBER || told.size >= MOST_TOLD) {
            return refuse(ROOM);
        }
        told.add(v);
        return told.size;
    }

    public int judge() {
        int many = told.size;
        told.size = 0;
        for (int person = 0; person < many; person++) {
            if (!now.hasPerson(person) || told.at(person) != asTold(now.enemyOf(person, NONE))) {
                return person;
            }
        }
        return NONE;
    }

    public int clear() {
        int many = told.size;
        told.size = 0;
        return many;
    }

    public int lots(int n, int z, int what) {
        if (n < 1) {
            return refuse(BELOW);
        }
        if (n > MOST_DUCHIES) {
            return refuse(ROOM);
        }
        if (what < 0 || what > 1) {
            return refuse(OTHER);
        }
        return thought.ofDrawnDuchies(now, n, z, what == 1);
    }

    public int image() {
        taken.become(now);
        isTaken = true;
        return now.date;
    }

    public int on() {
        if (!isTaken) {
            return refuse(STATE);
        }
        now.become(taken);
        return now.date;
    }

    public int count(int what) {
        switch (what) {
            case 0: return now.people;
            case 1: return now.parcels;
            case 2: return now.date;
            case 3: return now.parcelsThat(WAITS);
            case 4: return now.parcelsThat(BROUGHT);
            case 5: return now.hatesTogether();
            case 6: return told.size;
            case 7: return text.size;
            default: break;
        }
        if (what > FIRST_REFUSAL_COUNT && what <= FIRST_REFUSAL_COUNT + REFUSALS) {
            return refused[what - FIRST_REFUSAL_COUNT];
        }
        return NONE;
    }

    private int refuse(int why) {
        if (why < 0 && why >= -REFUSALS) {
            refused[-why]++;
        }
        return why;
    }

    private long refuseLong(int why) {
        return LONG_REFUSAL - refuse(why);
    }

    /** Why a PARCEL can't be asked about as one that WAITS: the refusal, or 0. */
    private int notWaiting(int parcel) {
        if (!now.hasParcel(parcel)) {
            return NOBODY;
        }
        return now.stateOf(parcel) == WAITS ? 0 : STATE;
    }

    private static int asTold(int person) {
        return person < 0 ? TOLD_NOBODY : person;
    }

    private static int dayOrNone(int days) {
        return days < NEVER ? days : NONE;
    }

    /** Lets days go by in the given duchy until the parcel is BROUGHT: how many; NEVER if more than the most. */
    private static int daysTillBrought(Duchy duchy, int parcel, int most) {
        for (int days = 0; days <= most; days++) {
            if (duchy.stateOf(parcel) == BROUGHT) {
                return days;
            }
            duchy.passDay(false);
        }
        return NEVER;
    }

    /** Of a fraction in least terms what is above (0) or below (1) the line; 0 by 1 if nothing is below. */
    private static long partOf(long above, long below, int part) {
        long divisor = greatestDivisor(above, below);
        if (below < 1 || divisor < 1) {
            return part == 0 ? 0 : 1;
        }
        return (part == 0 ? above : below) / divisor;
    }

    private static long greatestDivisor(long a, long b) {
        long greater = a;
        long lesser = b;
        // Two longs take fewer than a hundred steps.
        for (int step = 0; step < 100 && lesser > 0; step++) {
            long rest = greater % lesser;
            greater = lesser;
            lesser = rest;
        }
        return greater;
    }

    /** All that an image keeps: the people, their hates, the parcels and the day. */
    private static final class Duchy {
        private int people = 0;
        private int parcels = 0;
        private int date = 0;
        private final int[] kinds = new int[MOST_PEOPLE];
        private final int[] figures = new int[MOST_PEOPLE];
        private final int[] places = new int[MOST_PEOPLE];
        private final int[] gots = new int[MOST_PEOPLE];
        /** Of one for another, at MOST_PEOPLE times the one and the other. */
        private final int[] feelings = new int[MOST_PEOPLE * MOST_PEOPLE];
        private final int[] receivers = new int[MOST_PARCELS];
        private final int[] worths = new int[MOST_PARCELS];
        private final int[] states = new int[MOST_PARCELS];
        private final int[] carriers = new int[MOST_PARCELS];
        private final int[] lefts = new int[MOST_PARCELS];

        void become(Duchy other) {
            if (other == null) {
                return;
            }
            people = other.people;
            parcels = other.parcels;
            date = other.date;
            System.arraycopy(other.kinds, 0, kinds, 0, MOST_PEOPLE);
            System.arraycopy(other.figures, 0, figures, 0, MOST_PEOPLE);
            System.arraycopy(other.places, 0, places, 0, MOST_PEOPLE);
            System.arraycopy(other.gots, 0, gots, 0, MOST_PEOPLE);
            System.arraycopy(other.feelings, 0, feelings, 0, MOST_PEOPLE * MOST_PEOPLE);
            System.arraycopy(other.receivers, 0, receivers, 0, MOST_PARCELS);
            System.arraycopy(other.worths, 0, worths, 0, MOST_PARCELS);
            System.arraycopy(other.states, 0, states, 0, MOST_PARCELS);
            System.arraycopy(other.carriers, 0, carriers, 0, MOST_PARCELS);
            System.arraycopy(other.lefts, 0, lefts, 0, MOST_PARCELS);
        }

        boolean hasPerson(int person) {
            return person >= 0 && person < people;
        }

        boolean hasPair(int one, int other) {
            return one >= 0 && one < people && other >= 0 && other < people && one != other;
        }

        boolean hasParcel(int parcel) {
            return parcel >= 0 && parcel < parcels;
        }

        boolean addPerson(int kind, int figure, int place) {
            if (people < 0 || people >= MOST_PEOPLE || place > MOST_PLACE) {
                return false;
            }
            kinds[people] = kind;
            figures[people] = figure;
            places[people] = place;
            gots[people] = 0;
            people++;
            return true;
        }

        boolean addParcel(int to, int worth) {
            if (parcels < 0 || parcels >= MOST_PARCELS || !hasPerson(to)) {
                return false;
            }
            receivers[parcels] = to;
            worths[parcels] = worth;
            states[parcels] = WAITS;
            carriers[parcels] = NONE;
            lefts[parcels] = 0;
            parcels++;
            return true;
        }

        int ofPerson(int person, int what) {
            if (!hasPerson(person)) {
                return NONE;
            }
            switch (what) {
                case 0: return kinds[person];
                case 1: return figures[person];
                case 2: return places[person];
                case 3: return gots[person];
                case 4: return milesOf(kinds[person]);
                default: return carries(person) ? 1 : 0;
            }
        }

        int ofParcel(int parcel, int what) {
            if (!hasParcel(parcel)) {
                return NONE;
            }
            switch (what) {
                case 0: return receivers[parcel];
                case 1: return worths[parcel];
                case 2: return states[parcel];
                case 3: return lefts[parcel];
                default: return carriers[parcel];
            }
        }

        int stateOf(int parcel) {
            return hasParcel(parcel) ? states[parcel] : WAITS;
        }

        int receiverOf(int parcel) {
            return hasParcel(parcel) ? receivers[parcel] : NONE;
        }

        int carrierOf(int parcel) {
            return hasParcel(parcel) ? carriers[parcel] : NONE;
        }

        int hateOf(int one, int other) {
            return hasPair(one, other) ? feelings[one * MOST_PEOPLE + other] : 0;
        }

        boolean setHate(int one, int other, int v) {
            if (!hasPair(one, other)) {
                return false;
            }
            feelings[one * MOST_PEOPLE + other] = v;
            return true;
        }

        boolean addHate(int one, int other, int more) {
            if (!hasPair(one, other)) {
                return false;
            }
            int at = one * MOST_PEOPLE + other;
            feelings[at] = Math.max(0, Math.min(MOST_HATE, feelings[at] + more));
            return true;
        }

        boolean makePeace(int one, int other) {
            setHate(one, other, hateOf(one, other) / 2);
            return setHate(other, one, hateOf(other, one) / 2);
        }

        int hatesTogether() {
            int sum = 0;
            for (int i = 0; i < feelings.length; i++) {
                sum += feelings[i];
            }
            return sum;
        }

        int apart(int one, int other) {
            return hasPair(one, other) ? Math.abs(places[one] - places[other]) : 0;
        }

        static int milesOf(int kind) {
            switch (kind) {
                case PERSON: return 2;
                case SAINT: return 1;
                case COWARD: return 4;
                default: return 3;
            }
        }

        int maliceOf(int one, int other) {
            if (one < 0 || one >= people || other < 0 || other >= people || one == other) {
                return 0;
            }
            int hate = feelings[one * MOST_PEOPLE + other];
            int figure = figures[one];
            int ahead = places[one] - places[other];
            int rivals = hate > 0 ? hate + figure : 0;
            switch (kinds[one]) {
                case SAINT: return hate / 2;
                case RIVAL: return rivals;
                case BULLY: return 2 * rivals;
                case LOVER: return hate / 2 + figure;
                case COWARD: return ahead >= FEARED_APART || ahead <= -FEARED_APART ? 0 : 2 * rivals;
                default: return hate;
            }
        }

        int maliceOfAll(int person) {
            int sum = 0;
            for (int other = 0; other < people; other++) {
                sum += maliceOf(other, person);
            }
            return sum;
        }

        /** The ENEMY of one, were the missing one not there (NONE: all are). */
        int enemyOf(int person, int missing) {
            int enemy = NONE;
            int most = LEAST_MALICE - 1;
            for (int other = 0; other < people; other++) {
                if (other == person || other == missing) {
                    continue;
                }
                int malice = maliceOf(other, person);
                if (malice > most) {
                    most = malice;
                    enemy = other;
                }
            }
            return enemy;
        }

        int enemyOfHowMany(int enemy) {
            int many = 0;
            for (int person = 0; person < people; person++) {
                if (enemyOf(person, NONE) == enemy) {
                    many++;
                }
            }
            return many;
        }

        int mutualEnemies() {
            int pairs = 0;
            for (int one = 0; one < people; one++) {
                int other = enemyOf(one, NONE);
                if (other > one && enemyOf(other, NONE) == one) {
                    pairs++;
                }
            }
            return pairs;
        }

        boolean carries(int person) {
            for (int parcel = 0; parcel < parcels; parcel++) {
                if (states[parcel] == CARRIED && carriers[parcel] == person) {
                    return true;
                }
            }
            return false;
        }

        int brought() {
            int many = 0;
            for (int parcel = 0; parcel < parcels; parcel++) {
                if (states[parcel] == BROUGHT) {
                    many++;
                }
            }
            return many;
        }

        int parcelsThat(int state) {
            int bits = 0;
            for (int parcel = 0; parcel < parcels; parcel++) {
                if (states[parcel] == state) {
                    bits |= 1 << parcel;
                }
            }
            return bits;
        }

        void passDays(int n) {
            for (int day = 0; day < n; day++) {
                passDay(false);
            }
        }

        void passDay(boolean snowing) {
            date++;
            if (!snowing) {
                carryOn();
            }
            giveOut();
            if (date % WEEK == 0) {
                coolDown();
            }
        }

        private void carryOn() {
            for (int parcel = 0; parcel < parcels; parcel++) {
                if (states[parcel] != CARRIED) {
                    continue;
                }
                lefts[parcel]--;
                if (lefts[parcel] > 0) {
                    continue;
                }
                states[parcel] = BROUGHT;
                lefts[parcel] = 0;
                int to = receivers[parcel];
                if (hasPerson(to)) {
                    gots[to] = Math.min(MOST_GOT, gots[to] + 1);
                }
                addHate(carriers[parcel], to, -worths[parcel]);
            }
        }

        private void giveOut() {
            for (int parcel = 0; parcel < parcels; parcel++) {
                if (states[parcel] != WAITS) {
                    continue;
                }
                int enemy = enemyOf(receivers[parcel], NONE);
                if (hasPerson(enemy) && !carries(enemy)) {
                    states[parcel] = CARRIED;
                    carriers[parcel] = enemy;
                    lefts[parcel] = daysOnRoad(apart(enemy, receivers[parcel]), milesOf(kinds[enemy]));
                }
            }
        }

        private static int daysOnRoad(int apart, int miles) {
            return miles < 1 ? 1 : (apart + miles - 1) / miles + 1;
        }

        private void coolDown() {
            for (int i = 0; i < feelings.length; i++) {
                if (feelings[i] > 0) {
                    feelings[i]--;
                }
            }
        }
    }

    /** What is told in letters: statements, each of a form that its first letter names. */
    private static final class Text {
        private static final String KIND_LETTERS = "psrblc";
        private static final char KIND_SIGN = 'K';
        private static final char DIGIT_SIGN = '#';
        /** No letter fits it. */
        private static final String NO_FORM = "?";
        private static final char NO_SIGN = '?';

        private int size = 0;
        private final int[] letters = new int[MOST_LETTERS];

        void add(int c) {
            if (size >= 0 && size < letters.length) {
                letters[size] = c;
                size++;
            }
        }

        private int letterAt(int place) {
            return place >= 0 && place < size && place < letters.length ? letters[place] : -1;
        }

        private static String formOf(int letter) {
            switch (letter) {
                case 'p': return "pK###;";
                case 'h': return "h####;";
                case 'c': return "c##;";
                case 's': return "s##;";
                case 'm': return "m##;";
                case 'd': return "d##;";
                default: return NO_FORM;
            }
        }

        private static boolean fits(char sign, int letter) {
            if (sign == KIND_SIGN) {
                return letter >= 0 && KIND_LETTERS.indexOf((char) letter) >= 0;
            }
            if (sign == DIGIT_SIGN) {
                return letter >= '0' && letter <= '9';
            }
            return letter == sign && sign != NO_SIGN;
        }

        /** How long the statement at the place is. */
        int lengthAt(int place) {
            return formOf(letterAt(place)).length();
        }

        /** The place of the first letter (or of the end) with which no duchy can go on; -1 if the text is one. */
        int firstMisfit() {
            int place = 0;
            do {
                String form = formOf(letterAt(place));
                for (int i = 0; i < form.length(); i++) {
                    if (!fits(form.charAt(i), letterAt(place + i))) {
                        return place + i;
                    }
                }
                place += Math.max(1, form.length());
            } while (place < size);
            return -1;
        }

        private int digitAt(int place) {
            return letterAt(place) - '0';
        }

        private int numberAt(int place) {
            return 10 * digitAt(place) + digitAt(place + 1);
        }

        /** The statement at the place becomes so in the duchy; false if it is not as it must be. */
        boolean tell(int place, Duchy duchy) {
            int one = digitAt(place + 1);
            int other = digitAt(place + 2);
            switch (letterAt(place)) {
                case 'p':
                    return duchy.addPerson(KIND_LETTERS.indexOf((char) letterAt(place + 1)), other, numberAt(place + 3));
                case 'h': return duchy.setHate(one, other, numberAt(place + 3));
                case 'c': return duchy.addParcel(one, other);
                case 's': return duchy.addHate(one, other, SLIGHT);
                case 'm': return duchy.makePeace(one, other);
                default: return letDaysPass(numberAt(place + 1), duchy);
            }
        }

        private static boolean letDaysPass(int n, Duchy duchy) {
            if (n < 1 || n > MOST_DAYS || duchy.date + n > MOST_DATE) {
                return false;
            }
            duchy.passDays(n);
            return true;
        }
    }

    /** The numbers of the ROW. */
    private static final class Row {
        private int size = 0;
        private final int[] numbers = new int[MOST_TOLD];

        void add(int v) {
            if (size >= 0 && size < numbers.length) {
                numbers[size] = v;
                size++;
            }
        }

        int at(int place) {
            return place >= 0 && place < numbers.length ? numbers[place] : NONE;
        }
    }

    /** What would come of it: tries things out on duchies in mind and leaves the true one as it is. */
    private static final class Thought {
        private static final int CHOICES = 4;

        private final Duchy mind = new Duchy();
        private final Duchy later = new Duchy();
        private final int[] firstGot = new int[CHOICES];
        private final int[] otherGot = new int[CHOICES];

        Duchy behind(Duchy now, int n) {
            mind.become(now);
            mind.passDays(n);
            return mind;
        }

        int firstBrought(Duchy now) {
            mind.become(now);
            for (int day = 1; day <= LAST_THOUGHT; day++) {
                mind.passDay(false);
                for (int parcel = 0; parcel < now.parcels; parcel++) {
                    if (now.stateOf(parcel) != BROUGHT && mind.stateOf(parcel) == BROUGHT) {
                        return parcel;
                    }
                }
            }
            return NONE;
        }

        int daysTillAll(Duchy now) {
            mind.become(now);
            for (int days = 0; days <= LAST_THOUGHT; days++) {
                if (mind.brought() == mind.parcels) {
                    return days;
                }
                mind.passDay(false);
            }
            return NEVER;
        }

        int bestSlight(Duchy now, int parcel) {
            int to = now.receiverOf(parcel);
            mind.become(now);
            int fewest = daysTillBrought(mind, parcel, LAST_THOUGHT);
            int best = NONE;
            for (int other = 0; other < now.people; other++) {
                if (other == to) {
                    continue;
                }
                mind.become(now);
                mind.addHate(other, to, SLIGHT);
                int days = daysTillBrought(mind, parcel, LAST_THOUGHT);
                if (days < fewest) {
                    fewest = days;
                    best = other;
                }
            }
            return best;
        }

        int worstPeace(Duchy now, int parcel) {
            int to = now.receiverOf(parcel);
            mind.become(now);
            int most = daysTillBrought(mind, parcel, LAST_THOUGHT);
            int worst = NONE;
            for (int other = 0; other < now.people; other++) {
                if (other == to) {
                    continue;
                }
                mind.become(now);
                mind.makePeace(to, other);
                int days = daysTillBrought(mind, parcel, LAST_THOUGHT);
                if (days > most) {
                    most = days;
                    worst = other;
                }
            }
            return worst;
        }

        /** Whether the parcel is BROUGHT within n DAYS by some way to SLIGHT so many times. */
        boolean isEnough(Duchy now, int parcel, int n, int many) {
            int ways = 1;
            for (int i = 0; i < many; i++) {
                ways *= now.people;
            }
            for (int way = 0; way < ways; way++) {
                mind.become(now);
                if (slightAll(way, many, now.receiverOf(parcel)) && daysTillBrought(mind, parcel, n) <= n) {
                    return true;
                }
            }
            return false;
        }

        /**
         * The receiver slights those whom the way's digits (by the number of people) name. The order of slights
         * changes nothing: a way whose digits are not in order is left out (false), as is one that names himself.
         */
        private boolean slightAll(int way, int many, int to) {
            int base = Math.max(1, mind.people);
            int rest = way;
            int before = 0;
            for (int i = 0; i < many; i++) {
                int other = rest % base;
                rest /= base;
                if (other == to || other < before) {
                    return false;
                }
                mind.addHate(other, to, SLIGHT);
                before = other;
            }
            return true;
        }

        int bestPosting(Duchy now, int to, boolean asksWhen) {
            int soonest = NEVER;
            int best = NONE;
            mind.become(now);
            for (int wait = 0; wait <= LAST_POSTING; wait++) {
                later.become(mind);
                if (!later.addParcel(to, 0)) {
                    return NONE;
                }
                int days = wait + daysTillBrought(later, later.parcels - 1, LAST_THOUGHT - wait);
                if (days < soonest) {
                    soonest = days;
                    best = wait;
                }
                mind.passDay(false);
            }
            return asksWhen ? dayOrNone(soonest) : best;
        }

        /** A choice is 2 times what the first does, and what the other does (1: he SLIGHTS). */
        int court(Duchy now, int first, int other, int n) {
            for (int choice = 0; choice < CHOICES; choice++) {
                mind.become(now);
                if (choice >= 2) {
                    mind.addHate(other, first, SLIGHT);
                }
                if (choice % 2 == 1) {
                    mind.addHate(first, other, SLIGHT);
                }
                mind.passDays(n);
                firstGot[choice] = broughtTo(first);
                otherGot[choice] = broughtTo(other);
            }
            for (int choice = 0; choice < CHOICES; choice++) {
                if (firstGot[choice] >= firstGot[choice ^ 2] && otherGot[choice] >= otherGot[choice ^ 1]) {
                    return 10 * (choice / 2) + choice % 2;
                }
            }
            return NONE;
        }

        private int broughtTo(int person) {
            int many = 0;
            for (int parcel = 0; parcel < mind.parcels; parcel++) {
                if (mind.stateOf(parcel) == BROUGHT && mind.receiverOf(parcel) == person) {
                    many++;
                }
            }
            return many;
        }

        /** How many of the t to the n-th equally likely runs of days bring the parcel; a sky's bits are the days of snow. */
        long broughtOfAll(Duchy now, int parcel, int n, int t) {
            long runs = 0;
            for (int sky = 0; sky < (1 << n); sky++) {
                mind.become(now);
                long alike = 1;
                for (int day = 0; day < n; day++) {
                    boolean snowing = ((sky >> day) & 1) == 1;
                    alike *= snowing ? 1 : t - 1;
                    mind.passDay(snowing);
                }
                if (mind.stateOf(parcel) == BROUGHT) {
                    runs += alike;
                }
            }
            return runs;
        }

        /** The KINDS or FIGURES (bits) of the person by which the ROW tells who carries the parcel. */
        int fitting(Duchy now, int parcel, int person, boolean asksFigures, Row told) {
            int bits = 0;
            int many = asksFigures ? MOST_FIGURE + 1 : KINDS;
            for (int value = 0; value < many && now.hasPerson(person); value++) {
                mind.become(now);
                if (asksFigures) {
                    mind.figures[person] = value;
                } else {
                    mind.kinds[person] = value;
                }
                if (goesAsTold(parcel, told)) {
                    bits |= 1 << value;
                }
            }
            return bits;
        }

        private boolean goesAsTold(int parcel, Row told) {
            for (int days = 0; days < told.size; days++) {
                if (told.at(days) != asTold(mind.carrierOf(parcel))) {
                    return false;
                }
                mind.passDay(false);
            }
            return true;
        }

        int ofDrawnDuchies(Duchy now, int n, int z, boolean asksHates) {
            int seed = z;
            int sum = 0;
            for (int i = 0; i < n; i++) {
                mind.become(now);
                seed = drawHates(seed);
                mind.passDays(DRAWN_DAYS);
                sum += asksHates ? mind.hatesTogether() : mind.brought();
            }
            return sum;
        }

        /** The seed then. */
        private int drawHates(int z) {
            int seed = z;
            for (int one = 0; one < mind.people; one++) {
                for (int other = 0; other < mind.people; other++) {
                    if (one != other) {
                        seed = seed * 1664525 + 1013904223;
                        mind.setHate(one, other, (seed & WITHOUT_SIGN) / 256 % DRAWN_BELOW);
                    }
                }
            }
            return seed;
        }
    }
}
