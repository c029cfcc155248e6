import java.lang.reflect.InvocationTargetException;
import java.lang.reflect.Method;
import java.lang.reflect.Modifier;
import java.util.ArrayList;
import java.util.Arrays;
import java.util.Comparator;
import java.util.List;
import java.util.Random;

/**
 * Many runs of drawn calls (always the same ones): the program answers as the slow model does, from the first call to
 * the 512th, and never throws. Two objects are called by turns, so that neither may know of the other.
 */
public final class ModelTest {
    private static final int RUNS = 1000;
    private static final int CALLS = 512;
    /** A text, or a ROW and what is asked of it, takes fewer calls. */
    private static final int MOST_AT_ONCE = 100;
    private static final int[] EDGES = {-2147483648, -1000, -10, -9, -3, -2, -1, 0, 1, 2, 3, 4, 5, 6, 7, 8, 9, 10, 11, 15,
        16, 17, 19, 20, 21, 29, 30, 31, 59, 60, 61, 95, 96, 97, 98, 99, 100, 101, 255, 256, 999, 1000, 2147483647};
    private static final String KINDS = "psrblc";

    /** They need a duchy in which much is going on, so that they are called more often than others. */
    private static final List<String> THOUGHTS = List.of("slight", "cost", "makeUp", "post", "two", "snow", "who",
        "when", "first", "parcelThen", "hateThen", "gotThen", "enemy", "ring", "lots", "on");

    private static final List<Method> calls = new ArrayList<>();
    private static int wrong = 0;

    public static void main(String[] args) throws Exception {
        for (Method method : PostByEnemy.class.getDeclaredMethods()) {
            if (Modifier.isPublic(method.getModifiers())) {
                for (int i = THOUGHTS.contains(method.getName()) ? 4 : 1; i > 0; i--) {
                    calls.add(method);
                }
            }
        }
        calls.sort(Comparator.comparing(Method::getName));
        for (int seed = 0; seed < RUNS && wrong < 10; seed += 2) {
            ModelTest one = new ModelTest(seed);
            ModelTest other = new ModelTest(seed + 1);
            while (one.isGoingOn() || other.isGoingOn()) {
                one.goOn();
                other.goOn();
            }
        }
        if (wrong != 0) {
            System.exit(1);
        }
    }

    private final Random random;
    private final int seed;
    private final PostByEnemy post = new PostByEnemy();
    private final Model model = new Model();
    private final StringBuilder told = new StringBuilder();
    private int made = 0;
    private boolean isWrong = false;

    private ModelTest(int seed) {
        this.seed = seed;
        this.random = new Random(seed);
    }

    private boolean isGoingOn() {
        return made < CALLS && !isWrong;
    }

    private void goOn() throws Exception {
        if (!isGoingOn()) {
            return;
        }
        boolean hasRoom = made + MOST_AT_ONCE <= CALLS;
        if (made == 0 && seed % 8 != 0) {
            tell(text());
            tell(text());
            call("image");
        } else if (hasRoom && random.nextInt(60) == 0) {
            tell(text());
        } else if (hasRoom && random.nextInt(30) == 0) {
            tellRow();
        } else {
            Method method = calls.get(random.nextInt(calls.size()));
            Integer[] values = new Integer[method.getParameterCount()];
            for (int i = 0; i < values.length; i++) {
                values[i] = value(method.getName(), i);
            }
            check(method, values);
        }
    }

    private void tell(String text) throws Exception {
        for (char c : text.toCharArray()) {
            call("letter", c);
        }
        call("duchy");
    }

    private void call(String name, int... values) throws Exception {
        Class<?>[] types = Arrays.stream(values).mapToObj(v -> int.class).toArray(Class<?>[]::new);
        check(PostByEnemy.class.getMethod(name, types), Arrays.stream(values).boxed().toArray(Integer[]::new));
    }

    /** A ROW that is so, or nearly, and the calls that go by it. */
    private void tellRow() throws Exception {
        call("clear");
        int size = random.nextInt(13);
        if (model.count(1) > 0 && random.nextInt(3) > 0) {
            int parcel = random.nextInt(model.count(1));
            for (int days = 0; days < size; days++) {
                int by = model.parcelThen(parcel, days, 1);
                call("row", by < 0 ? 9 : by);
            }
            for (int person = 0; person < model.count(0); person++) {
                call("who", parcel, person, 0);
                call("who", parcel, person, 1);
            }
            return;
        }
        for (int person = 0; person < model.count(0); person++) {
            int enemy = model.enemy(person, 0);
            call("row", random.nextInt(12) == 0 ? random.nextInt(10) : enemy < 0 ? 9 : enemy);
        }
        call("judge");
    }

    private void check(Method method, Integer[] values) throws Exception {
        if (made >= CALLS || isWrong) {
            return;
        }
        made++;
        told.append(' ').append(method.getName()).append(Arrays.toString(values));
        Method due = Model.class.getDeclaredMethod(method.getName(), method.getParameterTypes());
        Number want = (Number) due.invoke(model, (Object[]) values);
        Number got = null;
        try {
            got = (Number) method.invoke(post, (Object[]) values);
        } catch (InvocationTargetException thrown) {
            System.out.println("thrown: " + thrown.getCause());
        }
        if (!want.equals(got)) {
            wrong++;
            isWrong = true;
            System.out.println("run " + seed + ":" + told + " answered " + got + ", due is " + want);
        }
    }

    private int value(String name, int place) {
        int chance = random.nextInt(40);
        if (chance == 0) {
            return EDGES[random.nextInt(EDGES.length)];
        }
        if (chance == 1) {
            return random.nextInt(13) - 2;
        }
        return usual(name, place);
    }

    /** A number that the call mostly takes. */
    private int usual(String name, int place) {
        switch (name + place) {
            case "letter0":
                return random.nextInt(256);
            case "person1":
            case "turn1":
                return random.nextInt(6);
            case "parcel1":
                return random.nextInt(5);
            case "posts1":
            case "turn2":
                return random.nextInt(10);
            case "hates2":
                return random.nextInt(random.nextBoolean() ? 100 : 12);
            case "moves1":
                return random.nextInt(31);
            case "days0":
                return 1 + random.nextInt(random.nextInt(8) == 0 ? 60 : 5);
            case "parcelThen1":
            case "hateThen2":
            case "gotThen0":
                return random.nextInt(100);
            case "gotThen1":
                return random.nextInt(6) - 1;
            case "cost1":
            case "two2":
                return 1 + random.nextInt(random.nextBoolean() ? 60 : 15);
            case "snow1":
                return random.nextInt(8);
            case "snow2":
                return 2 + random.nextInt(19);
            case "row0":
                return random.nextInt(3) == 0 ? 9 : random.nextInt(6);
            case "lots0":
                return 1 + random.nextInt(20);
            case "lots1":
                return random.nextInt();
            case "count0":
                return random.nextInt(18);
            case "first0":
            case "fair0":
                return random.nextInt(3);
            default:
                return isSwitch(name, place) ? random.nextInt(2) : random.nextInt(4);
        }
    }

    private static boolean isSwitch(String name, int place) {
        return List.of("parcelThen2", "enemy1", "busiest0", "ring1", "post1", "snow3", "mean0", "who2", "lots2")
            .contains(name + place);
    }

    private String text() {
        StringBuilder text = new StringBuilder();
        int people = model.count(0) < 3 ? 2 + random.nextInt(3) : random.nextInt(2);
        for (int i = 0; i < people; i++) {
            text.append('p').append(KINDS.charAt(random.nextInt(6))).append(random.nextInt(10));
            twoDigits(text, random.nextInt(random.nextInt(40) == 0 ? 40 : 31));
        }
        int most = Math.max(1, Math.min(6, model.count(0) + people));
        for (int i = random.nextInt(10); i > 0; i--) {
            statement(text, most);
        }
        if (text.length() > 0 && random.nextInt(8) == 0) {
            text.setCharAt(random.nextInt(text.length()), (char) (random.nextBoolean() ? ';' : random.nextInt(128)));
        }
        if (random.nextInt(8) == 0) {
            text.setLength(random.nextInt(text.length() + 1));
        }
        return text.toString();
    }

    private void statement(StringBuilder text, int people) {
        int one = random.nextInt(people);
        int other = random.nextInt(12) == 0 ? one : (one + 1 + random.nextInt(Math.max(1, people - 1))) % people;
        switch (random.nextInt(10)) {
            case 0:
                text.append('s').append(one).append(other).append(';');
                break;
            case 1:
                text.append('m').append(one).append(other).append(';');
                break;
            case 2:
                text.append('d');
                twoDigits(text, random.nextInt(20) == 0 ? random.nextInt(100) : 1 + random.nextInt(4));
                break;
            case 3:
            case 4:
                text.append('c').append(one).append(random.nextInt(10)).append(';');
                break;
            default:
                text.append('h').append(one).append(other);
                twoDigits(text, random.nextInt(random.nextBoolean() ? 100 : 12));
                break;
        }
    }

    private static void twoDigits(StringBuilder text, int v) {
        text.append(v / 10).append(v % 10).append(';');
    }
}
