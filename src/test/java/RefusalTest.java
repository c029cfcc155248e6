import java.lang.reflect.InvocationTargetException;
import java.lang.reflect.Method;
import java.lang.reflect.Modifier;
import java.util.ArrayList;
import java.util.Arrays;
import java.util.Collections;
import java.util.List;
import java.util.Set;
import java.util.TreeSet;

/**
 * Every call with every mixture of arguments at, beside and far beyond the bounds, in four duchies: the answer is the
 * refusal that the document's table of it (below) tells first, or none; what is refused changes nothing but how many
 * refusals there were, and what only asks changes nothing at all.
 */
public final class RefusalTest {
    private static final int LEAST = Integer.MIN_VALUE;
    private static final int GREATEST = Integer.MAX_VALUE;
    private static final long LONG_REFUSAL = 4000000000000000000L;
    private static final int MOST_CALLS = 512;

    /** When a refusal fits: for these arguments in that duchy. */
    private interface Case {
        boolean fits(int[] a, Scene s);
    }

    private record Refusal(int number, Case when) {
    }

    private record Call(String name, List<int[]> values, List<Refusal> refusals) {
    }

    /** A duchy to ask in, and what the document's bounds are in it. */
    private enum Scene {
        EMPTY(0, 0, 0, 0, 0, false, ""),
        MIDWAY(4, 3, 9, 4, 2, true, "021"),
        FULL(6, 8, 999, 96, 16, true, "00000000"),
        NEARLY_FULL(5, 7, 939, 95, 15, false, "2222200");

        private final int people;
        private final int parcels;
        private final int date;
        private final int letters;
        private final int told;
        private final boolean hasImage;
        /** Of each PARCEL: WAITS 0, CARRIED 1, BROUGHT 2. */
        private final String states;

        Scene(int people, int parcels, int date, int letters, int told, boolean hasImage, String states) {
            this.people = people;
            this.parcels = parcels;
            this.date = date;
            this.letters = letters;
            this.told = told;
            this.hasImage = hasImage;
            this.states = states;
        }

        boolean noPerson(int person) {
            return person < 0 || person >= people;
        }

        boolean noPair(int one, int other) {
            return noPerson(one) || noPerson(other) || one == other;
        }

        boolean noParcel(int parcel) {
            return parcel < 0 || parcel >= parcels;
        }

        boolean waits(int parcel) {
            return states.charAt(parcel) == '0';
        }
    }

    /** They change what there is when they are not refused. */
    private static final Set<String> DEEDS = Set.of("letter", "duchy", "posts", "hates", "slights", "peace", "moves",
        "turn", "days", "row", "judge", "clear", "image", "on");

    private static final int[] PEOPLE = {LEAST, -9, -2, -1, 0, 1, 3, 4, 5, 6, GREATEST};
    private static final int[] PARCELS = {LEAST, -1, 0, 1, 2, 3, 6, 7, 8, GREATEST};

    private static int wrong = 0;
    private static int asked = 0;

    private PostByEnemy post = new PostByEnemy();
    private int calls = 0;

    public static void main(String[] args) throws Exception {
        List<Call> table = table();
        checkThatAllAreTold(table);
        for (Scene scene : Scene.values()) {
            checkScene(scene);
            List<Long> whole = new RefusalTest().told(scene);
            List<Long> image = new RefusalTest().toldFromImage(scene);
            List<Long> rest = new RefusalTest().toldOfRest(scene);
            for (Call call : table) {
                for (int[] values : mixtures(call.values())) {
                    check(scene, call, values, whole, image, rest);
                }
            }
        }
        if (asked < 10000) {
            say("no more than " + asked + " calls were tried");
        }
        if (wrong != 0) {
            System.exit(1);
        }
    }

    private static void say(String text) {
        wrong++;
        if (wrong <= 40) {
            System.out.println(text);
        }
    }

    // ---- The document's table

    private static int[] range(int least, int most) {
        return new int[] {LEAST, least - 1, least, most, most + 1, GREATEST};
    }

    private static Refusal nobody(Case when) {
        return new Refusal(-1, when);
    }

    private static Refusal other(Case when) {
        return new Refusal(-2, when);
    }

    private static Refusal state(Case when) {
        return new Refusal(-3, when);
    }

    private static Refusal below(Case when) {
        return new Refusal(-4, when);
    }

    private static Refusal room(Case when) {
        return new Refusal(-6, when);
    }

    private static Call call(String name, List<int[]> values, Refusal... refusals) {
        return new Call(name, values, Arrays.asList(refusals));
    }

    private static final Refusal NO_PERSON = nobody((a, s) -> s.noPerson(a[0]));
    private static final Refusal NO_PARCEL = nobody((a, s) -> s.noParcel(a[0]));
    private static final Refusal NO_PAIR = nobody((a, s) -> s.noPair(a[0], a[1]));

    /** What of the parameter at the place is not among 0 .. most. */
    private static Refusal whatAt(int place, int most) {
        return other((a, s) -> a[place] < 0 || a[place] > most);
    }

    private static Refusal belowAt(int place, int least) {
        return below((a, s) -> a[place] < least);
    }

    private static Refusal aboveAt(int place, int most) {
        return room((a, s) -> a[place] > most);
    }

    private static List<Call> table() {
        List<int[]> none = List.of();
        List<int[]> pair = List.of(PEOPLE, PEOPLE);
        List<Call> all = new ArrayList<>();
        all.add(call("letter", List.of(range(0, 255)), belowAt(0, 0), room((a, s) -> a[0] > 255 || s.letters >= 96)));
        all.add(call("duchy", none));
        all.add(call("person", List.of(PEOPLE, range(0, 5)), NO_PERSON, whatAt(1, 5)));
        all.add(call("parcel", List.of(PARCELS, range(0, 4)), NO_PARCEL, whatAt(1, 4)));
        all.add(call("hate", pair, NO_PAIR));
        all.add(call("posts", List.of(PEOPLE, range(0, 9)), NO_PERSON, belowAt(1, 0),
            room((a, s) -> a[1] > 9 || s.parcels >= 8)));
        all.add(call("hates", List.of(PEOPLE, PEOPLE, range(0, 99)), NO_PAIR, belowAt(2, 0), aboveAt(2, 99)));
        all.add(call("slights", pair, NO_PAIR));
        all.add(call("peace", pair, NO_PAIR));
        all.add(call("moves", List.of(PEOPLE, range(0, 30)), NO_PERSON, belowAt(1, 0), aboveAt(1, 30)));
        all.add(call("turn", List.of(PEOPLE, range(0, 5), range(0, 9)), NO_PERSON, whatAt(1, 5), belowAt(2, 0),
            aboveAt(2, 9)));
        all.add(call("days", List.of(new int[] {LEAST, -1, 0, 1, 9, 59, 60, 61, 62, 990, GREATEST}), belowAt(0, 1),
            room((a, s) -> a[0] > 60 || s.date + a[0] > 999)));
        all.add(call("parcelThen", List.of(PARCELS, range(0, 99), range(0, 1)), NO_PARCEL, belowAt(1, 0),
            aboveAt(1, 99), whatAt(2, 1)));
        all.add(call("hateThen", List.of(PEOPLE, PEOPLE, range(0, 99)), NO_PAIR, belowAt(2, 0), aboveAt(2, 99)));
        all.add(call("gotThen", List.of(range(0, 99), PEOPLE), belowAt(0, 0), aboveAt(0, 99),
            nobody((a, s) -> a[1] != -1 && s.noPerson(a[1]))));
        all.add(call("when", List.of(PARCELS), NO_PARCEL));
        all.add(call("first", List.of(range(0, 2)), whatAt(0, 2)));
        all.add(call("enemy", List.of(PEOPLE, range(0, 1)), NO_PERSON, whatAt(1, 1)));
        all.add(call("malice", pair, NO_PAIR));
        all.add(call("loved", none));
        all.add(call("busiest", List.of(range(0, 1)), whatAt(0, 1)));
        all.add(call("ring", List.of(PEOPLE, range(0, 1)), NO_PERSON, whatAt(1, 1)));
        addWhatIsTriedOut(all);
        addTheRest(all);
        return all;
    }

    private static void addWhatIsTriedOut(List<Call> all) {
        Refusal busy = state((a, s) -> !s.waits(a[0]));
        all.add(call("slight", List.of(PARCELS), NO_PARCEL, busy));
        all.add(call("cost", List.of(PARCELS, range(1, 60)), NO_PARCEL, belowAt(1, 1), aboveAt(1, 60), busy));
        all.add(call("makeUp", List.of(PARCELS), NO_PARCEL, busy));
        all.add(call("post", List.of(PEOPLE, range(0, 1)), NO_PERSON, whatAt(1, 1)));
        all.add(call("road", List.of(PEOPLE, PEOPLE), NO_PAIR));
        all.add(call("farthest", List.of()));
        all.add(call("fair", List.of(range(0, 2)), whatAt(0, 2)));
        all.add(call("two", List.of(PEOPLE, PEOPLE, range(1, 60)), NO_PAIR, belowAt(2, 1), aboveAt(2, 60)));
        all.add(call("snow", List.of(PARCELS, range(0, 7), range(2, 20), range(0, 1)), NO_PARCEL,
            below((a, s) -> a[1] < 0 || a[2] < 2), room((a, s) -> a[1] > 7 || a[2] > 20), whatAt(3, 1)));
        all.add(call("mean", List.of(range(0, 1)), whatAt(0, 1)));
        all.add(call("who", List.of(PARCELS, PEOPLE, range(0, 1)),
            nobody((a, s) -> s.noParcel(a[0]) || s.noPerson(a[1])), whatAt(2, 1)));
    }

    private static void addTheRest(List<Call> all) {
        all.add(call("row", List.of(range(0, 99)), belowAt(0, 0), room((a, s) -> a[0] > 99 || s.told >= 16)));
        all.add(call("judge", List.of()));
        all.add(call("clear", List.of()));
        all.add(call("lots", List.of(range(1, 20), new int[] {LEAST, -1, 0, 1, GREATEST}, range(0, 1)), belowAt(0, 1),
            aboveAt(0, 20), whatAt(2, 1)));
        all.add(call("image", List.of()));
        all.add(call("on", List.of(), state((a, s) -> !s.hasImage)));
        all.add(call("count", List.of(new int[] {LEAST, -1, 0, 7, 8, 10, 11, 16, 17, GREATEST})));
    }

    private static void checkThatAllAreTold(List<Call> table) {
        Set<String> names = new TreeSet<>();
        for (Call call : table) {
            names.add(call.name());
        }
        for (Method method : PostByEnemy.class.getDeclaredMethods()) {
            if (Modifier.isPublic(method.getModifiers()) && !names.contains(method.getName())) {
                say("no refusals are told of " + method.getName());
            }
        }
    }

    private static List<int[]> mixtures(List<int[]> values) {
        List<int[]> all = new ArrayList<>(Collections.singletonList(new int[0]));
        for (int[] here : values) {
            List<int[]> longer = new ArrayList<>();
            for (int[] ahead : all) {
                for (int value : here) {
                    int[] one = Arrays.copyOf(ahead, ahead.length + 1);
                    one[ahead.length] = value;
                    longer.add(one);
                }
            }
            all = longer;
        }
        return all;
    }

    // ---- One call

    private static void check(Scene scene, Call call, int[] values, List<Long> whole, List<Long> image, List<Long> rest)
            throws Exception {
        asked++;
        int due = 0;
        for (Refusal refusal : call.refusals()) {
            if (refusal.when().fits(values, scene)) {
                due = refusal.number();
                break;
            }
        }
        String where = scene + ": " + call.name() + Arrays.toString(values);
        RefusalTest test = new RefusalTest();
        test.set(scene);
        long got = test.ask(call.name(), values);
        if (due == 0) {
            boolean isFault = call.name().equals("duchy") && got <= -1000;
            if (got < 0 && got != -9 && !isFault || got > LONG_REFUSAL) {
                say(where + " answered " + got + ", due is no refusal");
            }
        } else if (got != (call.name().equals("snow") || call.name().equals("mean") ? LONG_REFUSAL - due : due)) {
            say(where + " answered " + got + ", due is the refusal " + due);
        }
        if (due == 0 && DEEDS.contains(call.name())) {
            List<Long> refusals = test.refusals();
            if (!refusals.equals(refusalsOf(scene))) {
                say(where + " counted as refused: " + refusals);
            }
            return;
        }
        List<Long> then = due == 0 ? whole : oneRefusalMore(whole, due);
        if (!test.state().equals(then)) {
            say(where + " changed what there is, or counted it wrong");
        }
        RefusalTest last = new RefusalTest();
        last.set(scene);
        last.ask(call.name(), values);
        if (!last.rest().equals(rest)) {
            say(where + " changed the letters or the ROW");
        }
        if (scene.hasImage && !test.fromImage().equals(due == 0 ? image : oneRefusalMore(image, due))) {
            say(where + " changed the image");
        }
        if (test.calls > MOST_CALLS || last.calls > MOST_CALLS) {
            say(where + " took more than " + MOST_CALLS + " calls of one object");
        }
    }

    private static List<Long> oneRefusalMore(List<Long> whole, int refusal) {
        List<Long> then = new ArrayList<>(whole);
        then.set(-refusal - 1, then.get(-refusal - 1) + 1);
        return then;
    }

    private long ask(String name, int... values) throws Exception {
        calls++;
        Class<?>[] types = new Class<?>[values.length];
        Object[] boxed = new Object[values.length];
        for (int i = 0; i < values.length; i++) {
            types[i] = int.class;
            boxed[i] = values[i];
        }
        try {
            return ((Number) PostByEnemy.class.getMethod(name, types).invoke(post, boxed)).longValue();
        } catch (InvocationTargetException thrown) {
            say(name + Arrays.toString(values) + " threw " + thrown.getCause());
            return 0;
        }
    }

    // ---- The duchies to ask in

    private void letters(String text) {
        for (int i = 0; i < text.length(); i++) {
            calls++;
            post.letter(text.charAt(i));
        }
    }

    private void tell(String text) {
        letters(text);
        calls++;
        post.duchy();
    }

    private void set(Scene scene) throws Exception {
        switch (scene) {
            case MIDWAY:
                setMidway();
                break;
            case FULL:
                setFull();
                break;
            case NEARLY_FULL:
                setNearlyFull();
                break;
            default:
                break;
        }
    }

    /** PARCEL 0 WAITS (nobody hates 2), 1 is BROUGHT, 2 on its way. The ROWs tell the ENEMIES that there are. */
    private void setMidway() throws Exception {
        tell("pp005;ps310;pr720;pb402;h0140;h1033;c24;c13;d07;");
        ask("image");
        ask("posts", 0, 9);
        ask("days", 2);
        refuseEach();
        letters("pp0x");
        ask("row", 1);
        ask("row", 0);
    }

    /** At first 7 and then 8 PARCELS that WAIT, DAY 999, 96 letters, 16 numbers; the image has 7. */
    private void setFull() throws Exception {
        tell("pp000;pr130;pb202;pl304;pc506;ps630;");
        tell("d60;d60;d60;d60;d60;d60;d60;d60;d60;d60;d60;d60;d60;d60;d60;d60;d39;");
        for (int parcel = 0; parcel < 7; parcel++) {
            ask("posts", parcel % 6, parcel);
        }
        ask("image");
        ask("posts", 5, 9);
        ask("hates", 1, 0, 99);
        ask("hates", 5, 4, 98);
        ask("hates", 0, 5, 97);
        letters("pp000;h0110;".repeat(8));
        for (int person = 0; person < 16; person++) {
            ask("row", person == 0 ? 1 : person == 4 ? 5 : person == 5 ? 0 : 9);
        }
    }

    /** One less than full of all; to DAY 999 there are 60. */
    private void setNearlyFull() throws Exception {
        tell("pp000;pp000;pp000;pp000;pp000;h1099;c00;c00;c00;c00;c00;c10;c20;");
        tell("d60;d60;d60;d60;d60;d60;d60;d60;d60;d60;d60;d60;d60;d60;d60;d39;");
        refuseEach();
        letters("pp000;h0110;".repeat(8).substring(0, 95));
        for (int person = 0; person < 15; person++) {
            ask("row", 9);
        }
    }

    private void refuseEach() throws Exception {
        ask("person", -1, 0);
        ask("person", 0, 6);
        ask("mean", 2);
        ask("moves", 0, -1);
        ask("moves", 0, 31);
        ask("snow", 0, 8, 2, 0);
        ask("letter", 256);
    }

    private static List<Long> refusalsOf(Scene scene) {
        boolean some = scene == Scene.MIDWAY || scene == Scene.NEARLY_FULL;
        return some ? List.of(1L, 2L, 0L, 1L, 0L, 3L) : List.of(0L, 0L, 0L, 0L, 0L, 0L);
    }

    private static void checkScene(Scene scene) throws Exception {
        RefusalTest test = new RefusalTest();
        test.set(scene);
        long[] due = {scene.people, scene.parcels, scene.date};
        for (int i = 0; i < due.length; i++) {
            if (test.ask("count", i) != due[i]) {
                say(scene + ": count(" + i + ") is not " + due[i]);
            }
        }
        if (test.ask("count", 6) != scene.told || test.ask("count", 7) != scene.letters) {
            say(scene + ": the ROW or the letters are not as they must be");
        }
        for (int parcel = 0; parcel < scene.parcels; parcel++) {
            if (test.ask("parcel", parcel, 2) != scene.states.charAt(parcel) - '0') {
                say(scene + ": PARCEL " + parcel + " is not as it must be");
            }
        }
        if (!test.refusals().equals(refusalsOf(scene))) {
            say(scene + ": the refusals are not as they must be: " + test.refusals());
        }
        if (test.ask("judge") != (scene.told > scene.people ? scene.people : -9)) {
            say(scene + ": the ROW does not tell the ENEMIES that there are");
        }
    }

    // ---- What there is

    private List<Long> told(Scene scene) throws Exception {
        set(scene);
        return state();
    }

    private List<Long> toldFromImage(Scene scene) throws Exception {
        set(scene);
        return scene.hasImage ? fromImage() : List.of();
    }

    private List<Long> toldOfRest(Scene scene) throws Exception {
        set(scene);
        return rest();
    }

    private List<Long> refusals() throws Exception {
        List<Long> all = new ArrayList<>();
        for (int what = 11; what <= 16; what++) {
            all.add(ask("count", what));
        }
        return all;
    }

    /** The refusals first: by -1 .. -6 at 0 .. 5. */
    private List<Long> state() throws Exception {
        List<Long> all = refusals();
        for (int what = 0; what <= 7; what++) {
            all.add(ask("count", what));
        }
        int people = (int) ask("count", 0);
        int parcels = (int) ask("count", 1);
        for (int one = 0; one < people; one++) {
            for (int what = 0; what <= 5; what++) {
                all.add(ask("person", one, what));
            }
            for (int other = 0; other < people; other++) {
                if (one != other) {
                    all.add(ask("hate", one, other));
                }
            }
        }
        for (int parcel = 0; parcel < parcels; parcel++) {
            for (int what = 0; what <= 4; what++) {
                all.add(ask("parcel", parcel, what));
            }
        }
        return all;
    }

    private List<Long> fromImage() throws Exception {
        long date = ask("on");
        List<Long> all = state();
        all.add(date);
        return all;
    }

    /** What of the letters and the ROW can be seen when they are used; after that they are no more. */
    private List<Long> rest() throws Exception {
        List<Long> all = new ArrayList<>();
        for (int person = 0; person < 6 && ask("count", 1) > 0 && ask("count", 0) > person; person++) {
            all.add(ask("who", 0, person, 0));
            all.add(ask("who", 0, person, 1));
        }
        all.add(ask("judge"));
        all.add(ask("duchy"));
        all.add(ask("count", 6));
        all.add(ask("count", 7));
        return all;
    }
}
