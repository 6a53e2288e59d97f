import java.lang.management.ManagementFactory;

/** All calls of a run live in one room: a new object is small, and no call makes anything. */
public final class RoomTest {
    private RoomTest() {
    }

    private static long made() {
        return ((com.sun.management.ThreadMXBean) ManagementFactory.getThreadMXBean())
                .getThreadAllocatedBytes(Thread.currentThread().getId());
    }

    public static void main(String[] args) {
        run();
        Due.part("room");
        long before = made();
        GleanedSorry o = new GleanedSorry();
        long object = made() - before;
        Due.is("an object of " + object + " bytes is small", object < 20000 ? 1 : 0, 1);
        before = made();
        o = run();
        long all = made() - before - object;
        Due.is("512 calls made " + all + " bytes", all < 4000 ? 1 : 0, 1);
        Due.is("the run went on", o.count(1), 6);
        Due.end();
    }

    /** The dearest calls there are, and those that change rows. */
    private static GleanedSorry run() {
        GleanedSorry o = new GleanedSorry();
        for (int i = 0; i < 6; i++) {
            o.person(10 * i + 3, i % 5);
            o.change(i, 2, 47);
        }
        for (int i = 0; i < 8; i++) {
            o.wrong(i % 6, (i + 1) % 6, 20);
        }
        String law = "!(!(w+1))|w*2+m-d/3%7+!!!!!w&(((((w)))))+1+1+1";
        for (int i = 0; i < law.length(); i++) {
            o.feed(law.charAt(i), 1);
        }
        Due.part("room");
        Due.is(law, o.text(0), 1);
        for (int i = 0; i < 30; i++) {
            o.sheet(i % 4, 32, 40);
            o.pardons(20);
            o.brings(i % 4, i % 6, 0);
            o.adds(i % 6, 60);
            o.best(i % 6, 60, 0);
            o.starves(60);
            o.odds(i % 6, 60, 0);
            o.upright(0);
            o.voice(i % 6, 3, i);
            o.image();
            o.loose(1);
            o.restore();
            o.tell(i);
            o.check();
        }
        return o;
    }
}
