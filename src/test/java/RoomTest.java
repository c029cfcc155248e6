import com.sun.management.ThreadMXBean;
import java.lang.management.ManagementFactory;

/** The calls make next to nothing: all that they need is made with the object. */
public final class RoomTest {
    private static final int ROUNDS = 200;
    private static final long MOST_BYTES = 64 * 1024;

    private static long sum = 0;

    public static void main(String[] args) {
        PostByEnemy post = new PostByEnemy();
        tell(post, "pp000;pr730;pb304;pl829;pc910;ps600;h1030;h2011;h0120;c03;c11;c02;d03;");
        post.image();
        callAll(post);
        ThreadMXBean threads = (ThreadMXBean) ManagementFactory.getThreadMXBean();
        long id = Thread.currentThread().getId();
        long before = threads.getThreadAllocatedBytes(id);
        for (int round = 0; round < ROUNDS; round++) {
            callAll(post);
        }
        long made = threads.getThreadAllocatedBytes(id) - before;
        if (made > MOST_BYTES) {
            System.out.println(ROUNDS + " rounds of all calls made " + made + " bytes (" + sum + ")");
            System.exit(1);
        }
    }

    private static void tell(PostByEnemy post, String text) {
        for (int i = 0; i < text.length(); i++) {
            sum += post.letter(text.charAt(i));
        }
        sum += post.duchy();
    }

    private static void callAll(PostByEnemy post) {
        sum += post.on();
        tell(post, "s01;m02;h3450;c01;d02;");
        tell(post, "s01;x");
        sum += post.person(0, 5) + post.parcel(0, 3) + post.hate(0, 1) + post.posts(0, 3) + post.hates(0, 1, 30);
        sum += post.slights(0, 1) + post.peace(0, 1) + post.moves(0, 3) + post.turn(0, 3, 4) + post.days(2);
        sum += post.parcelThen(0, 99, 1) + post.hateThen(0, 1, 99) + post.gotThen(99, -1) + post.when(0);
        sum += post.first(0) + post.first(1) + post.first(2) + post.enemy(0, 1) + post.malice(0, 1) + post.loved();
        sum += post.busiest(0) + post.ring(0, 1) + post.posts(5, 1) + post.slight(5) + post.cost(5, 60);
        sum += post.makeUp(5) + post.post(0, 1) + post.road(0, 1) + post.farthest() + post.fair(0) + post.fair(2);
        sum += post.two(0, 1, 60) + post.snow(0, 7, 20, 1) + post.mean(0) + post.row(9) + post.row(1);
        sum += post.who(1, 1, 0) + post.who(1, 1, 1) + post.judge() + post.row(1) + post.clear();
        sum += post.lots(20, 5, 1) + post.count(5) + post.count(11) + post.person(-1, 0) + post.mean(7);
    }
}
