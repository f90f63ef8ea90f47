import java.lang.management.ManagementFactory;

/**
 * How much room a run of 512 calls takes when nothing is given back: the document's classes share one room of
 * some 7.3 million fields and elements. The rows are made with the house; the calls should make nearly nothing.
 */
public final class RoomTest {
    interface Call {
        void run();
    }

    static final com.sun.management.ThreadMXBean BEAN = (com.sun.management.ThreadMXBean) ManagementFactory.getThreadMXBean();

    static long room(Call call) {
        long id = Thread.currentThread().getId();
        long before = BEAN.getThreadAllocatedBytes(id);
        call.run();
        return BEAN.getThreadAllocatedBytes(id) - before;
    }

    static int wrong = 0;

    static void atMost(String what, long got, long most) {
        if (got > most) {
            wrong++;
            System.out.println(what + " takes " + got + " bytes, at most " + most);
        }
    }

    static void calls(Wagnerhall x, int times) {
        for (int i = 0; i < times; i++) {
            x.language(2);
            x.join(0, 1, '&');
            x.turn(0, 'c');
            x.shift(0, 'a');
            x.isWithin(0, 1);
            x.apart(0, 1);
            x.chain(0, true);
            x.isA(0, 'o');
            x.isA(0, 'f');
            x.residuals(0);
            x.many(0, 8);
            x.agrees(0, 6);
            x.share(0);
            x.holds();
            x.takes(0);
            x.deeds(3);
            x.won();
            x.move(0);
            x.isSound();
            x.checksum();
            x.meanClasses();
            x.idempotents(0);
            for (int k = 0; k < 4; k++) x.drop();
        }
    }

    public static void main(String[] args) {
        Wagnerhall[] made = new Wagnerhall[1];
        room(() -> made[0] = new Wagnerhall());
        atMost("a new house", room(() -> made[0] = new Wagnerhall()), 700_000);
        Wagnerhall x = made[0];
        HelperHouse.machine(x, "3 s59531 0a1:0 0a2:0 0b2:0 1a2:3 1b0:11 1b1:2 2b1:0");
        HelperHouse.machine(x, "4 m30510 0a0:2 0b2:1 1a0:2 1b0:2 2a3:2 2b2:4 3a3:3 3b0:0");
        HelperHouse.machine(x, "4 b41050 0a3:4 0b3:3 1a2:1 1b0:0 1b1:2 2a1:8 3b2:4");
        HelperHouse.machine(x, "4 m65519 0a1:1 0b0:3 1a0:1 1b0:0 1b3:14 2a1:1 2a2:1 2b1:2 3a2:0 3b3:11");
        x.language(0);
        x.language(1);
        x.position(0, 2);
        x.position(1, 3);
        x.way(0, 0);
        x.way(0, 1);
        x.way(1, 0);
        x.type('a', true);
        for (char c : "U!Xa|GFaFG!a".toCharArray()) x.sign(c);
        calls(x, 2);
        atMost("500 calls", room(() -> calls(x, 20)), 50_000);
        System.out.println(wrong == 0 ? "the room is kept" : wrong + " wrong");
        System.exit(wrong == 0 ? 0 : 1);
    }
}
