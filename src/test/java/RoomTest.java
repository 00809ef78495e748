import com.sun.management.ThreadMXBean;
import java.lang.management.ManagementFactory;

/** What an object and 512 of its calls take: rows are made once, the calls make next to nothing. */
public final class RoomTest {
    private static final int OBJECTS = 200;
    // An object with both its images is some 5 kilobytes; a row made by each call would be far above.
    private static final long MOST_BYTES = 8000;
    private static final Check check = new Check();

    public static void main(String[] args) {
        ThreadMXBean beans = (ThreadMXBean) ManagementFactory.getThreadMXBean();
        long id = Thread.currentThread().getId();
        use(new OpenEyes());
        long before = beans.getThreadAllocatedBytes(id);
        for (int i = 0; i < OBJECTS; i++) use(new OpenEyes());
        long each = (beans.getThreadAllocatedBytes(id) - before) / OBJECTS;
        System.out.println("an object and its calls take " + each + " bytes");
        check.holds("bytes of an object with its calls: " + each, each <= MOST_BYTES);
        dearest();
        check.end("RoomTest");
    }

    private static void use(OpenEyes x) {
        x.people(5);
        for (int round = 0; round < 10; round++) {
            for (int k = 0; k < 5; k++) x.say(k == round % 5 ? 's' : 'o');
            x.shot();
            x.hands(round);
            x.bride(round % 6 - 1);
            for (int i = -1; i < 5; i++) x.heads(i);
            for (int i = 0; i < 2; i++) {
                x.single(i);
                x.spoils(i);
                x.fault(i);
                x.judge(i);
                x.image(i);
                x.restore(i);
                x.likely(round, i);
                x.one(3, i);
                x.shoot(round, 30, i);
            }
            x.cover();
            x.left();
            x.blink(0, 2, round);
            x.flash(round);
            x.open(round);
            x.fire(0, 99, 0);
            x.bad(1, round % 5);
            x.many(round, 100);
            x.tall(0, 150 + round);
            x.pair(0, 1, round % 3);
            x.stair(2, 3);
            x.placed(-1);
            x.told(round);
            x.look(0, 0);
        }
    }

    /** The dearest run: standings of eight people counted anew by every other call. */
    private static void dearest() {
        OpenEyes x = new OpenEyes();
        x.people(8);
        x.stair(2, 4);
        for (int i = 0; i < 255; i++) {
            x.tall(0, 170 + i % 2);
            check.due("standings of eight", x.placed(-1), 40320);
        }
    }
}
