import com.sun.management.ThreadMXBean;
import java.lang.management.ManagementFactory;
import java.util.Random;

/**
 * Calls with any numbers whatever, on objects that are used far longer than the document asks: none may throw,
 * each finding counts once in status(), and no call takes room of its own.
 */
public final class WildTest {
    private static final int CALLS = 44;
    private static final int OBJECTS = 40;
    private static final int CALLS_OF_EACH = 20000;
    /** Bytes, for itself, when calls are made for the first time; less than 1000 were seen. */
    private static final int MACHINE_TAKES = 16384;
    private static final int LAST_FINDING = -1000000007;
    private static final int FIRST_FINDING = -1000000001;
    private static final int[] ODD = {Integer.MIN_VALUE, Integer.MIN_VALUE + 1, -2147483608, -1000000001, -10000, -9999, -100, -99, -3, -2,
        -1, 0, 1, 2, 3, 4, 5, 6, 7, 8, 9, 10, 11, 16, 39, 40, 41, 64, 99, 100, 120, 999, 1000, 1001, 9999, 10000, 1 << 16, 1 << 30,
        Integer.MAX_VALUE - 1, Integer.MAX_VALUE};
    /** What a text may be made of; fed in pieces that fit together by chance. */
    private static final String[] PIECES = {"plac", "e", "way ", "walk", " 0 ", "1 2 ", "3", "all ", "to ", "back", "; ", "-", "9999",
        "erra", "nds ", "slac", "k ", "5", "\0", "\u00ff"};

    private final Random random;
    private final LongerBack x = new LongerBack();
    /** Made ahead, so that what is counted as room is taken by the class alone. */
    private final int[] which = new int[CALLS_OF_EACH];
    private final int[][] args = new int[CALLS_OF_EACH][5];
    private long findings = 0;

    private WildTest(long seed) {
        random = new Random(seed);
        boolean isTame = seed % 4 > 0;
        for (int i = 0; i < CALLS_OF_EACH; i++) {
            which[i] = random.nextInt(CALLS);
            for (int k = 0; k < 5; k++) {
                args[i][k] = number(isTame);
            }
            if (which[i] == 31 && random.nextInt(8) > 0) {
                piece(args[i]);
            }
        }
    }

    private int number(boolean isTame) {
        if (isTame && random.nextInt(10) > 0) {
            return random.nextInt(10);
        }
        return random.nextInt(4) == 0 ? random.nextInt() : ODD[random.nextInt(ODD.length)];
    }

    private void piece(int[] of) {
        String piece = PIECES[random.nextInt(PIECES.length)];
        of[0] = 0;
        of[1] = piece.length();
        for (int i = 0; i < piece.length(); i++) {
            of[0] = of[0] << 8 | piece.charAt(i);
        }
    }

    private long call(int i) {
        int a = args[i][0];
        int b = args[i][1];
        int c = args[i][2];
        int d = args[i][3];
        int e = args[i][4];
        switch (which[i]) {
            case 0: return x.place();
            case 1: return x.errands(a, b);
            case 2: return x.way(a, b, c, d);
            case 3: return x.wayOf(a, b, c);
            case 4: return x.shut(a, b, (c & 1) == 0);
            case 5: return x.far(a, b);
            case 6: return x.by(a, b, c);
            case 7: return x.loops();
            case 8: return x.longer(a, b);
            case 9: return x.round(a, b);
            case 10: return x.over(a, b);
            case 11: return x.sum(a);
            case 12: return x.roundOf(a, b);
            case 13: return x.as(a, b);
            case 14: return x.live();
            case 15: return x.trip(a);
            case 16: return x.meet(a, b, c);
            case 17: return x.fit();
            case 18: return x.height(a);
            case 19: return x.paper(a, b);
            case 20: return x.worst();
            case 21: return x.walk(a, b, c, d);
            case 22: return x.on(a, b);
            case 23: return x.learn();
            case 24: return x.lies();
            case 25: return x.known(a);
            case 26: return x.ask();
            case 27: return x.saves(a, b);
            case 28: return x.mend();
            case 29: return x.goes(a, b);
            case 30: return x.hollow();
            case 31: return x.feed(a, b);
            case 32: return (e & 3) == 0 ? x.wipe() : x.land();
            case 33: return x.land();
            case 34: return x.sheet(a, (b & 3) == 0 ? b : 8 << (b & 1), c);
            case 35: return write(a, b, (long) c << (d & 63));
            case 36: return x.copy(a, b, c, d, e);
            case 37: return x.lays(a, b);
            case 38: return x.read(a);
            case 39: return (e & 7) == 0 ? x.image() : 0;
            case 40: return (e & 7) == 0 ? x.undo() : 0;
            case 41: return (e & 7) == 0 ? x.tear() : 0;
            case 42: return x.count(a);
            default: return x.status(a);
        }
    }

    /** Whether write() told a finding only status() can say: the number that was there may look like one. */
    private long write(int s, int i, long v) {
        int ahead = x.status(-1);
        x.write(s, i, v);
        return x.status(-1) > ahead ? FIRST_FINDING : 0;
    }

    private void run() {
        for (int i = 0; i < CALLS_OF_EACH; i++) {
            long answer = call(i);
            findings += answer >= LAST_FINDING && answer <= FIRST_FINDING ? 1 : 0;
        }
    }

    private boolean countsRight(long seed) {
        long told = x.status(-1);
        if (told != findings) {
            System.out.println("object " + seed + ": " + findings + " findings, status(-1) tells " + told);
        }
        return told == findings;
    }

    public static void main(String[] args) {
        ThreadMXBean room = (ThreadMXBean) ManagementFactory.getThreadMXBean();
        long taken = 0;
        boolean right = true;
        for (long seed = 0; seed < OBJECTS; seed++) {
            WildTest test = new WildTest(seed);
            long ahead = room.getCurrentThreadAllocatedBytes();
            test.run();
            taken += room.getCurrentThreadAllocatedBytes() - ahead;
            right &= test.countsRight(seed);
        }
        long calls = (long) OBJECTS * CALLS_OF_EACH;
        if (taken > MACHINE_TAKES) {
            right = false;
            System.out.println(calls + " calls took " + taken + " bytes of room");
        }
        System.out.println(right ? "all " + calls + " calls answered and took no room" : "not as due");
        if (!right) {
            System.exit(1);
        }
    }
}
