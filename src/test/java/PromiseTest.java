/** For each promise of the document: ordinary inputs, the edges that it names, and wrong inputs. */
public final class PromiseTest {
    private static final int BEYOND = -1000000001;
    private static final int FULL = -1000000002;
    private static final int KIND = -1000000003;
    private static final int NONE = -1000000004;
    private static final int STATE = -1000000005;
    private static final int MISSING = -1000000006;
    private static final int SIZE = -1000000007;
    private static final int MIN = Integer.MIN_VALUE;
    private static final int MAX = Integer.MAX_VALUE;

    private static int promise = 0;
    private static int asked = 0;
    private static int wrong = 0;

    private static void due(String call, long got, long want) {
        asked++;
        if (got != want) {
            wrong++;
            System.out.println("promise " + promise + ": " + call + " answered " + got + ", due is " + want);
        }
    }

    private static LongerBack land(int places) {
        LongerBack x = new LongerBack();
        for (int i = 0; i < places; i++) {
            x.place();
        }
        return x;
    }

    private static void way(LongerBack x, int from, int to, int miles) {
        x.way(from, to, miles, miles);
    }

    private static void both(LongerBack x, int one, int other, int there, int back) {
        way(x, one, other, there);
        way(x, other, one, back);
    }

    private static void feed(LongerBack x, String text) {
        for (int i = 0; i < text.length(); i++) {
            x.feed(text.charAt(i), 1);
        }
    }

    private static int tell(LongerBack x, String text) {
        feed(x, text);
        return x.land();
    }

    private static int round(LongerBack x, int kind, int... row) {
        int r = x.round(kind, row[0]);
        for (int i = 1; i < row.length; i++) {
            x.over(r, row[i]);
        }
        return r;
    }

    private static void sheet(LongerBack x, int s, int bits, long... row) {
        x.sheet(s, bits, row.length);
        for (int i = 0; i < row.length; i++) {
            x.write(s, i, row[i]);
        }
    }

    private static void newObject() {
        LongerBack x = new LongerBack();
        for (int what = 0; what <= 5; what++) {
            due("count(" + what + ")", x.count(what), 0);
        }
        for (int which = -1; which <= 6; which++) {
            due("status(" + which + ")", x.status(which), 0);
        }
        due("tear()", x.tear(), 0);
        due("wipe()", x.wipe(), 0);
        due("learn()", x.learn(), 0);
        due("lies()", x.lies(), 0);
        due("hollow()", x.hollow(), 0);
        due("loops()", x.loops(), 0);
        due("fit()", x.fit(), 1);
        for (int s = 0; s < 4; s++) {
            due("read(" + s + ")", x.read(s), MISSING);
        }
    }

    private static void place() {
        LongerBack x = new LongerBack();
        for (int i = 0; i < 10; i++) {
            due("place()", x.place(), i);
        }
        due("place() for an 11th", x.place(), FULL);
        due("count(0)", x.count(0), 10);
    }

    private static void errands() {
        LongerBack x = land(2);
        due("errands(1, 99)", x.errands(1, 99), 0);
        due("errands(1, 0)", x.errands(1, 0), 99);
        due("errands(0, 7)", x.errands(0, 7), 0);
        due("errands(0, 100)", x.errands(0, 100), BEYOND);
        due("errands(0, -1)", x.errands(0, -1), BEYOND);
        due("errands(2, 1)", x.errands(2, 1), BEYOND);
        due("errands(-1, 1)", x.errands(-1, 1), BEYOND);
        due("errands(MIN, 1)", x.errands(MIN, 1), BEYOND);
        due("errands(0, 7)", x.errands(0, 7), 7);
    }

    private static void way() {
        LongerBack x = land(2);
        due("way(0, 1, -99, 999)", x.way(0, 1, -99, 999), 1);
        due("way(0, 1, 5, 5)", x.way(0, 1, 5, 5), 0);
        x.shut(0, 1, true);
        due("way over a shut one", x.way(0, 1, 6, 8), 0);
        due("it is open", x.wayOf(0, 1, 2), 0);
        due("way(0, 1, -100, 5)", x.way(0, 1, -100, 5), BEYOND);
        due("way(0, 1, 5, 1000)", x.way(0, 1, 5, 1000), BEYOND);
        due("way(0, 1, 6, 5)", x.way(0, 1, 6, 5), BEYOND);
        due("way(0, 0, 5, 5)", x.way(0, 0, 5, 5), BEYOND);
        due("way(0, 2, 5, 5)", x.way(0, 2, 5, 5), BEYOND);
        due("way(-1, 0, 5, 5)", x.way(-1, 0, 5, 5), BEYOND);
        due("LOW as it was", x.wayOf(0, 1, 0), 6);
        due("HIGH as it was", x.wayOf(0, 1, 1), 8);
        due("no way back", x.wayOf(1, 0, 0), NONE);
    }

    private static void wayOf() {
        LongerBack x = land(3);
        x.way(0, 1, -3, 4);
        due("LOW", x.wayOf(0, 1, 0), -3);
        due("HIGH", x.wayOf(0, 1, 1), 4);
        due("open", x.wayOf(0, 1, 2), 0);
        x.shut(0, 1, true);
        due("shut", x.wayOf(0, 1, 2), 1);
        due("LOW of a shut one", x.wayOf(0, 1, 0), -3);
        due("what 3", x.wayOf(0, 1, 3), BEYOND);
        due("what -1", x.wayOf(0, 1, -1), BEYOND);
        due("one and the same", x.wayOf(1, 1, 0), BEYOND);
        due("no PLACE", x.wayOf(0, 3, 0), BEYOND);
        due("BEYOND ahead of NONE", x.wayOf(1, 2, 9), BEYOND);
        due("none", x.wayOf(1, 2, 0), NONE);
    }

    private static void shut() {
        LongerBack x = land(2);
        due("none", x.shut(0, 1, true), NONE);
        way(x, 0, 1, 4);
        due("open anyway", x.shut(0, 1, false), 0);
        due("shut", x.shut(0, 1, true), 1);
        due("shut again", x.shut(0, 1, true), 0);
        due("far", x.far(0, 1), NONE);
        due("open", x.shut(0, 1, false), 1);
        due("far", x.far(0, 1), 4);
        due("one and the same", x.shut(0, 0, true), BEYOND);
        due("no PLACE", x.shut(0, 2, true), BEYOND);
        due("no PLACE", x.shut(-1, 0, true), BEYOND);
    }

    private static void far() {
        LongerBack x = land(4);
        way(x, 0, 1, 10);
        way(x, 1, 2, -4);
        way(x, 0, 2, 7);
        due("by way of 1", x.far(0, 2), 6);
        due("to itself", x.far(3, 3), 0);
        due("no way", x.far(2, 0), NONE);
        due("no PLACE", x.far(0, 4), BEYOND);
        due("no PLACE", x.far(-1, 0), BEYOND);
        way(x, 2, 1, 3);
        due("a LOOP, anywhere", x.far(3, 3), STATE);
        due("BEYOND ahead of STATE", x.far(4, 4), BEYOND);
        way(x, 2, 1, 4);
        due("round for nothing is none", x.far(1, 1), 0);
        x.way(2, 1, -9, 900);
        due("MILES are LOW", x.far(0, 2), STATE);
        x.shut(2, 1, true);
        due("a shut WAY makes none", x.far(0, 2), 6);
    }

    private static void by() {
        LongerBack x = land(6);
        way(x, 0, 4, 1);
        way(x, 4, 5, 1);
        way(x, 0, 3, 1);
        way(x, 3, 5, 1);
        way(x, 0, 1, 0);
        way(x, 1, 2, 1);
        way(x, 2, 5, 1);
        due("fewest", x.by(0, 5, -1), 2);
        due("0-th", x.by(0, 5, 0), 0);
        due("the first of several", x.by(0, 5, 1), 3);
        due("the last", x.by(0, 5, 2), 5);
        due("no 3rd", x.by(0, 5, 3), NONE);
        way(x, 4, 5, 0);
        due("the least sum", x.by(0, 5, 1), 4);
        way(x, 1, 2, -1);
        due("more WAYS for less", x.by(0, 5, -1), 3);
        due("its 2nd", x.by(0, 5, 2), 2);
        due("to itself", x.by(2, 2, -1), 0);
        due("to itself, 0-th", x.by(2, 2, 0), 2);
        due("to itself, 1st", x.by(2, 2, 1), NONE);
        due("no way", x.by(5, 0, -1), NONE);
        due("no way, 0-th", x.by(5, 0, 0), NONE);
        due("what 9", x.by(0, 5, 9), NONE);
        due("what 10", x.by(0, 5, 10), BEYOND);
        due("what -2", x.by(0, 5, -2), BEYOND);
        due("no PLACE", x.by(0, 6, 0), BEYOND);
        both(x, 1, 2, -1, 1);
        due("a round for nothing", x.by(1, 2, -1), 1);
        both(x, 1, 2, -1, 0);
        due("a LOOP", x.by(0, 5, 0), STATE);
        LongerBack y = land(10);
        for (int i = 0; i < 9; i++) {
            way(y, i, i + 1, i - 4);
        }
        due("9 WAYS", y.by(0, 9, -1), 9);
        due("the 9th PLACE", y.by(0, 9, 9), 9);
        due("their sum", y.far(0, 9), 0);
    }

    private static void loops() {
        LongerBack x = land(6);
        both(x, 0, 1, 5, -5);
        due("nothing is no LOOP", x.loops(), 0);
        both(x, 2, 3, 1, -2);
        due("two", x.loops(), 4 + 8);
        way(x, 3, 4, 999);
        due("from it on, not back", x.loops(), 4 + 8);
        way(x, 4, 2, 999);
        due("there and back, for less by going round", x.loops(), 4 + 8 + 16);
        way(x, 0, 2, 1);
        due("to it, not back", x.loops(), 4 + 8 + 16);
        x.shut(3, 2, true);
        due("shut", x.loops(), 0);
        x.shut(3, 2, false);
        way(x, 2, 0, 1);
        due("and all that hang together with it", x.loops(), 31);
    }

    private static void longer() {
        LongerBack x = land(3);
        both(x, 0, 1, 10, 3);
        way(x, 1, 2, 1);
        due("longer there", x.longer(0, 1), 7);
        due("longer back", x.longer(1, 0), -7);
        due("to itself", x.longer(2, 2), 0);
        due("no way back", x.longer(0, 2), NONE);
        due("no way there", x.longer(2, 0), NONE);
        due("no PLACE", x.longer(0, 3), BEYOND);
        way(x, 2, 1, -2);
        due("a LOOP", x.longer(0, 1), STATE);
    }

    private static void rounds() {
        LongerBack x = land(2);
        due("kind 7", x.round(7, 0), BEYOND);
        due("kind -1", x.round(-1, 0), BEYOND);
        due("no PLACE", x.round(0, 2), BEYOND);
        for (int i = 0; i < 8; i++) {
            due("round " + i, x.round(i % 7, 1), i);
        }
        due("a 9th", x.round(0, 0), FULL);
        due("BEYOND ahead of FULL", x.round(9, 0), BEYOND);
        due("count(2)", x.count(2), 8);
    }

    private static void over() {
        LongerBack x = land(2);
        due("no ROUND", x.over(0, 0), BEYOND);
        x.round(0, 1);
        due("no PLACE", x.over(0, 2), BEYOND);
        due("ROUND -1", x.over(-1, 0), BEYOND);
        for (int i = 2; i <= 6; i++) {
            due("the " + i, x.over(0, 1), i);
        }
        due("a 7th", x.over(0, 1), FULL);
        due("BEYOND ahead of FULL", x.over(0, 2), BEYOND);
        due("how many", x.roundOf(0, -2), 6);
    }

    private static LongerBack square() {
        LongerBack x = land(5);
        both(x, 0, 1, 1, 10);
        both(x, 1, 2, 2, 20);
        both(x, 2, 3, 3, 30);
        both(x, 3, 0, 4, 40);
        return x;
    }

    private static void sum() {
        LongerBack x = square();
        due("ROUND", x.sum(round(x, 0, 0, 2, 1)), 3 + 8 + 9);
        due("ROUND of one", x.sum(round(x, 0, 4)), 0);
        due("TOLD", x.sum(round(x, 1, 0, 1, 1, 0)), 1 + 0 + 10 + 0);
        due("TOLD needs WAYS", x.sum(round(x, 1, 0, 2)), NONE);
        due("TURN", x.sum(round(x, 4, 0, 1, 2, 3)), 100);
        due("TOLD the other way", x.sum(round(x, 1, 3, 2, 1, 0)), 30 + 20 + 10 + 40);
        due("no such ROUND", x.sum(6), BEYOND);
        due("ROUND -1", x.sum(-1), BEYOND);
        x = square();
        due("BEST", x.sum(round(x, 2, 0, 3, 1, 2)), 10);
        due("RACE", x.sum(round(x, 6, 0, 3, 1, 2)), 6);
        due("RACE of one", x.sum(round(x, 6, 2)), 0);
        due("MEET", x.sum(round(x, 3, 0, 4, 2)), 3);
        due("MEET, first and last alike", x.sum(round(x, 3, 1, 1)), 0);
        due("MEET can't", x.sum(round(x, 3, 0, 4)), NONE);
        due("PAIRS", x.sum(round(x, 5, 0, 1, 2)), 1 + 9 + 2 + 8);
        due("PAIRS can't", x.sum(round(x, 5, 0, 4)), NONE);
        x = square();
        way(x, 0, 4, 5);
        due("RACE that ends where none leads on", x.sum(round(x, 6, 0, 4, 1)), 1 + 14);
        due("BEST of no order", x.sum(round(x, 2, 0, 4, 1)), NONE);
        way(x, 1, 4, 5);
        due("RACE by one order alone", x.sum(round(x, 6, 0, 4, 1)), 6);
        due("BEST of none back", x.sum(round(x, 2, 0, 4, 1)), NONE);
        due("first stays first", x.sum(round(x, 6, 4, 0, 1)), NONE);
        way(x, 2, 1, -3);
        due("TOLD by STATE", x.sum(round(x, 1, 0, 1)), STATE);
        due("TURN by STATE", x.sum(round(x, 4, 0, 1)), STATE);
        due("ROUND by STATE", x.sum(round(x, 0, 0)), STATE);
        x = land(3);
        way(x, 0, 2, -7);
        way(x, 1, 2, -9);
        due("MEET below nought", x.sum(round(x, 3, 0, 1)), -7);
        x.shut(0, 2, true);
        due("TOLD of a shut WAY", x.sum(round(x, 1, 0, 2)), NONE);
    }

    private static void roundOf() {
        LongerBack x = land(4);
        round(x, 5, 3, 1, 2);
        due("kind", x.roundOf(0, -1), 5);
        due("how many", x.roundOf(0, -2), 3);
        due("0-th", x.roundOf(0, 0), 3);
        due("2nd", x.roundOf(0, 2), 2);
        due("no 3rd", x.roundOf(0, 3), NONE);
        due("no 5th", x.roundOf(0, 5), NONE);
        due("what 6", x.roundOf(0, 6), BEYOND);
        due("what -3", x.roundOf(0, -3), BEYOND);
        due("no ROUND", x.roundOf(1, 0), BEYOND);
        due("ROUND -1", x.roundOf(-1, 0), BEYOND);
    }

    private static void as() {
        LongerBack x = land(1);
        int[][] under = {{0}, {0, 1}, {0, 2}, {0, 3}, {0, 1, 4}, {0, 5}, {0, 2, 6}};
        for (int kind = 0; kind < 7; kind++) {
            round(x, kind, 0, 0);
            for (int other = 0; other < 7; other++) {
                boolean is = false;
                for (int u : under[kind]) {
                    is |= u == other;
                }
                due(kind + " as " + other, x.as(kind, other), is ? 2 : KIND);
            }
        }
        due("kind 7", x.as(0, 7), BEYOND);
        due("kind -1", x.as(0, -1), BEYOND);
        due("no ROUND", x.as(7, 0), BEYOND);
    }

    private static void live() {
        LongerBack x = new LongerBack();
        due("no PLACES", x.live(), NONE);
        x = land(4);
        due("no ERRANDS: the least", x.live(), 0);
        both(x, 0, 1, 5, 5);
        both(x, 1, 2, 1, 1);
        x.errands(2, 1);
        due("there itself", x.live(), 2);
        x.errands(0, 1);
        due("all alike: the least", x.live(), 0);
        x.errands(1, 1);
        due("in the midst", x.live(), 1);
        x.errands(3, 1);
        due("none", x.live(), NONE);
        way(x, 2, 1, -2);
        due("a LOOP", x.live(), STATE);
    }

    private static void trip() {
        LongerBack x = land(4);
        both(x, 0, 1, 5, 7);
        both(x, 1, 2, 1, -1);
        x.errands(0, 3);
        x.errands(2, 2);
        due("from 0", x.trip(0), 2 * (6 + 6));
        due("from 1", x.trip(1), 3 * 12);
        due("from 3", x.trip(3), NONE);
        due("no PLACE", x.trip(4), BEYOND);
        due("no PLACE", x.trip(-1), BEYOND);
        x.errands(0, 0);
        x.errands(2, 0);
        due("without any", x.trip(3), 0);
        way(x, 1, 0, -6);
        due("a LOOP", x.trip(0), STATE);
    }

    private static void meet() {
        LongerBack x = land(6);
        way(x, 0, 2, 1);
        way(x, 1, 2, 9);
        way(x, 0, 3, 6);
        way(x, 1, 3, 6);
        way(x, 0, 4, 8);
        way(x, 1, 4, 8);
        due("what 2, no way home", x.meet(0, 1, 2), NONE);
        both(x, 0, 4, 8, 1);
        both(x, 1, 4, 8, 1);
        due("least sum, of several the least", x.meet(0, 1, 0), 0);
        due("least greater one", x.meet(0, 1, 1), 3);
        way(x, 4, 0, 100);
        way(x, 4, 1, 100);
        due("least sum", x.meet(0, 1, 0), 2);
        due("home again, of several the least", x.meet(0, 1, 2), 0);
        due("one and the same", x.meet(3, 3, 1), 3);
        due("can't", x.meet(0, 5, 0), NONE);
        due("what 3", x.meet(0, 1, 3), BEYOND);
        due("what -1", x.meet(0, 1, -1), BEYOND);
        due("no PLACE", x.meet(0, 6, 0), BEYOND);
        way(x, 4, 0, -9);
        due("a LOOP", x.meet(0, 1, 0), STATE);
    }

    private static void fit() {
        LongerBack x = land(4);
        due("nothing hangs together", x.fit(), 1);
        both(x, 0, 1, 7, 4);
        both(x, 1, 2, 5, 3);
        due("a tree fits", x.fit(), 1);
        way(x, 0, 2, 50);
        due("one way tells nothing", x.fit(), 1);
        way(x, 2, 0, 45);
        due("3 and 2 are 5", x.fit(), 1);
        way(x, 2, 0, 44);
        due("but not 6", x.fit(), 0);
        x.shut(2, 0, true);
        due("a shut WAY tells nothing", x.fit(), 1);
    }

    private static void height() {
        LongerBack x = land(6);
        both(x, 3, 1, 7, 4);
        both(x, 1, 4, 5, 3);
        both(x, 5, 2, 1, 2);
        due("alone", x.height(0), 0);
        due("the least of its own", x.height(1), 0);
        due("lower", x.height(3), -3);
        due("higher", x.height(4), 2);
        due("another lot", x.height(2), 0);
        due("another lot", x.height(5), 1);
        both(x, 0, 3, 10, 20);
        due("along two", x.height(4), -10 + 3 + 2);
        due("no PLACE", x.height(6), BEYOND);
        both(x, 3, 4, 1, 1);
        due("they don't FIT", x.height(2), STATE);
        due("BEYOND ahead of STATE", x.height(-1), BEYOND);
    }

    private static void paper() {
        LongerBack x = land(3);
        both(x, 0, 1, 4, 3);
        due("cut", x.paper(0, 1), 3);
        due("alike both ways", x.paper(1, 0), 3);
        both(x, 0, 1, -4, -3);
        due("cut towards 0", x.paper(0, 1), -3);
        way(x, 1, 2, 5);
        due("not both", x.paper(1, 2), NONE);
        x.shut(0, 1, true);
        due("a shut one", x.paper(0, 1), NONE);
        due("one and the same", x.paper(1, 1), BEYOND);
        due("no PLACE", x.paper(0, 3), BEYOND);
    }

    private static void worst() {
        LongerBack x = land(4);
        way(x, 0, 1, 400);
        due("no two", x.worst(), NONE);
        both(x, 2, 1, 4, 3);
        due("by 1", x.worst(), 1);
        both(x, 2, 3, -9, -4);
        due("by 3", x.worst(), 3);
        way(x, 1, 0, -99);
        due("by 250", x.worst(), 250);
        x.shut(0, 1, true);
        due("a shut one", x.worst(), 3);
        both(x, 2, 3, 5, 5);
        both(x, 2, 1, 5, 5);
        due("by 0", x.worst(), 0);
    }

    private static void walk() {
        LongerBack x = land(2);
        due("one and the same", x.walk(0, 0, 5, 5), BEYOND);
        due("no PLACE", x.walk(0, 2, 5, 5), BEYOND);
        due("TOTAL", x.walk(0, 1, 10000, 5), BEYOND);
        due("TOTAL", x.walk(0, 1, -10000, 5), BEYOND);
        due("TOTAL", x.walk(0, 1, MIN, 5), BEYOND);
        due("SLACK", x.walk(0, 1, 5, -1), BEYOND);
        due("SLACK", x.walk(0, 1, 5, 100), BEYOND);
        for (int i = 0; i < 8; i++) {
            due("walk " + i, x.walk(i % 2, 1 - i % 2, i % 2 == 0 ? 9999 : -9999, i % 2 * 99), i);
        }
        due("a 9th", x.walk(0, 1, 5, 5), FULL);
        due("BEYOND ahead of FULL", x.walk(0, 1, 5, 100), BEYOND);
        due("count(3)", x.count(3), 8);
    }

    private static void on() {
        LongerBack x = land(3);
        due("no WALK", x.on(0, 0), BEYOND);
        x.walk(0, 1, 0, 0);
        due("the one ahead", x.on(0, 1), BEYOND);
        due("no PLACE", x.on(0, 3), BEYOND);
        due("3", x.on(0, 0), 3);
        due("4", x.on(0, 2), 4);
        due("5", x.on(0, 1), 5);
        due("6", x.on(0, 0), 6);
        due("BEYOND ahead of FULL", x.on(0, 0), BEYOND);
        due("a 7th", x.on(0, 1), FULL);
        due("WALK -1", x.on(-1, 0), BEYOND);
    }

    private static void ends(LongerBack x, int from, int to, int low, int high) {
        due("LOW " + from + " " + to, x.wayOf(from, to, 0), low);
        due("HIGH " + from + " " + to, x.wayOf(from, to, 1), high);
    }

    private static void learn() {
        LongerBack x = land(4);
        due("no WALKS", x.learn(), 0);
        x.way(0, 1, 10, 50);
        x.way(1, 2, 10, 30);
        x.walk(0, 1, 40, 5);
        x.on(0, 2);
        x.shut(1, 2, true);
        due("both ENDS, shut ones too", x.learn(), 1);
        ends(x, 0, 1, 10, 35);
        ends(x, 1, 2, 10, 30);
        due("nothing new", x.learn(), 0);
        due("still shut", x.wayOf(1, 2, 2), 1);

        x = land(4);
        x.way(0, 1, 0, 100);
        x.way(1, 2, 0, 100);
        x.walk(0, 1, 60, 0);
        x.on(0, 2);
        x.walk(1, 2, 50, 1);
        due("two ROUNDS: the first WALK is asked again", x.learn(), 2);
        ends(x, 1, 2, 49, 51);
        ends(x, 0, 1, 9, 11);

        x = land(2);
        x.way(0, 1, 0, 100);
        x.way(1, 0, 0, 10);
        x.walk(0, 1, 30, 0);
        x.on(0, 0);
        x.on(0, 1);
        due("a WAY that stands twice stays", x.learn(), 0);
        ends(x, 0, 1, 0, 100);
        x.way(0, 1, 12, 14);
        due("and counts twice among the others", x.learn(), 1);
        ends(x, 1, 0, 2, 6);

        x = land(4);
        x.way(0, 1, 0, 100);
        x.way(1, 2, 0, 5);
        x.way(2, 3, 50, 60);
        x.walk(0, 1, 40, 0);
        x.on(0, 2);
        x.on(0, 3);
        due("the first WAY is spoilt at once", x.learn(), 0);
        ends(x, 0, 1, 0, 100);
        x.way(2, 3, 30, 60);
        due("then it isn't", x.learn(), 1);
        ends(x, 0, 1, 0, 10);
        ends(x, 2, 3, 30, 40);

        x = land(3);
        x.way(0, 1, -99, 999);
        x.way(1, 2, -99, 999);
        x.walk(0, 1, 10, 0);
        x.on(0, 2);
        x.walk(0, 1, 11, 0);
        x.on(1, 2);
        due("50 ROUNDS at most", x.learn(), 50);

        x = land(3);
        x.way(0, 1, 0, 9);
        x.walk(0, 1, 4, 0);
        x.on(0, 2);
        x.walk(0, 1, 4, 0);
        due("a WALK without one of its WAYS is left", x.learn(), 1);
        ends(x, 0, 1, 4, 4);
    }

    private static void lies() {
        LongerBack x = land(3);
        x.way(0, 1, 0, 100);
        x.walk(0, 1, 101, 0);
        x.walk(0, 1, 101, 1);
        x.walk(1, 2, 5, 0);
        due("too much, and a WAY that isn't there", x.lies(), 1 + 4);
        due("nothing changes", x.wayOf(0, 1, 0), 0);
        x.walk(0, 1, 50, 50);
        x.walk(0, 1, -1, 0);
        due("more", x.lies(), 1 + 4 + 16);
        x.way(1, 2, 5, 5);
        x.shut(1, 2, true);
        due("a shut one is there", x.lies(), 1 + 16);
        x = land(2);
        x.way(0, 1, 0, 100);
        x.walk(0, 1, 20, 0);
        x.walk(0, 1, 30, 0);
        due("the first is believed", x.lies(), 2);
        due("learn", x.learn(), 1);
        ends(x, 0, 1, 20, 20);

        x = land(3);
        x.way(0, 1, 0, 100);
        x.way(1, 2, 0, 100);
        x.walk(0, 1, 60, 0);
        x.on(0, 2);
        x.walk(0, 1, 20, 0);
        x.walk(1, 2, 45, 0);
        due("in the second ROUND alone", x.lies(), 1);
        due("of which the first changed something", x.learn(), 1);
        ends(x, 0, 1, 20, 20);
        ends(x, 1, 2, 45, 45);
    }

    private static void known() {
        LongerBack x = land(3);
        for (int what = 0; what < 3; what++) {
            due("nothing", x.known(what), 0);
        }
        x.way(0, 1, -99, 999);
        x.way(1, 0, 5, 5);
        x.way(1, 2, 5, 7);
        x.shut(1, 2, true);
        due("how many", x.known(0), 3);
        due("not known", x.known(1), 2);
        due("together", x.known(2), 1100);
        due("what 3", x.known(3), BEYOND);
        due("what -1", x.known(-1), BEYOND);
    }

    private static void ask() {
        LongerBack x = land(10);
        due("nothing", x.ask(), NONE);
        way(x, 0, 1, 5);
        due("all known", x.ask(), NONE);
        x.way(9, 8, 5, 9);
        due("one", x.ask(), 98);
        x.way(7, 2, 5, 9);
        due("the least of several", x.ask(), 72);
        x.way(8, 0, -5, 0);
        due("the most", x.ask(), 80);
        x.shut(8, 0, true);
        due("only open WAYS count", x.ask(), 72);
    }

    private static void saves() {
        LongerBack x = land(4);
        both(x, 0, 1, 10, 4);
        both(x, 1, 2, 3, 5);
        due("no ERRANDS", x.saves(0, 1), 0);
        x.errands(0, 2);
        x.errands(1, 1);
        x.errands(2, 1);
        due("now one lives at 0, or as well at 1", x.live(), 0);
        due("trip", x.trip(1), 2 * 14 + 8);
        due("0 and 1", x.saves(0, 1), 36 - (2 * 8 + 8));
        due("2 and 1", x.saves(2, 1), 2);
        due("not both", x.saves(0, 2), NONE);
        due("one and the same", x.saves(1, 1), BEYOND);
        due("no PLACE", x.saves(0, 4), BEYOND);
        both(x, 1, 3, -1, 1);
        due("a LOOP then", x.saves(1, 3), STATE);
        due("none with another", x.saves(0, 1), 12);
        both(x, 1, 3, -1, 0);
        due("a LOOP now", x.saves(0, 1), STATE);
        due("NONE ahead of STATE", x.saves(0, 2), NONE);
        x = land(4);
        both(x, 0, 1, 10, 4);
        x.errands(0, 1);
        x.errands(2, 1);
        due("no LIVE", x.saves(0, 1), NONE);
        both(x, 0, 1, -1, 4);
        due("STATE ahead of no LIVE", x.saves(0, 1), STATE);
        x = land(3);
        both(x, 0, 1, 0, 50);
        both(x, 0, 2, 100, 1);
        x.errands(1, 3);
        x.errands(2, 2);
        due("lives at 1", x.live(), 1);
        due("it moves", x.saves(0, 2), 302 - 104);
    }

    private static void mend() {
        LongerBack x = new LongerBack();
        due("no PLACES", x.mend(), NONE);
        x = land(4);
        due("no two", x.mend(), NONE);
        both(x, 2, 3, 5, 9);
        both(x, 1, 2, 5, 9);
        due("none saves: the least", x.mend(), 12);
        x.errands(2, 1);
        x.errands(3, 2);
        due("the most", x.mend(), 23);
        due("nothing is mended", x.wayOf(3, 2, 0), 9);
        both(x, 0, 1, 3, 4);
        x.errands(0, 1);
        x.errands(1, 1);
        due("the least of those that save most", x.mend(), 12);
        x.shut(0, 1, true);
        x.errands(0, 0);
        x.errands(1, 0);
        both(x, 2, 3, -1, 9);
        due("with a LOOP then: left out", x.mend(), 12);
        x.shut(1, 2, true);
        due("none is left", x.mend(), NONE);
        both(x, 2, 3, -1, 0);
        due("a LOOP now", x.mend(), STATE);
        both(x, 2, 3, 1, 1);
        x.errands(0, 1);
        due("no LIVE", x.mend(), NONE);
    }

    private static void goes() {
        LongerBack x = land(5);
        way(x, 0, 2, 5);
        way(x, 0, 1, 5);
        way(x, 1, 2, -4);
        way(x, 1, 0, 3);
        way(x, 2, 1, 9);
        due("the least of several", x.goes(0, 1), 1);
        due("0 steps", x.goes(4, 0), 4);
        due("2 steps", x.goes(0, 2), 2);
        due("1000 steps", x.goes(0, 1000), 2);
        due("999 steps", x.goes(0, 999), 1);
        due("no WAY on", x.goes(4, 1), NONE);
        way(x, 3, 4, 1);
        due("there is one", x.goes(3, 1), 4);
        due("then none", x.goes(3, 2), NONE);
        due("1001 steps", x.goes(0, 1001), BEYOND);
        due("-1 steps", x.goes(0, -1), BEYOND);
        due("no PLACE", x.goes(5, 1), BEYOND);
        x.shut(0, 1, true);
        due("shut", x.goes(0, 1), 2);
    }

    private static void hollow() {
        LongerBack x = land(8);
        way(x, 0, 1, 1);
        way(x, 1, 2, 1);
        way(x, 2, 3, 1);
        due("it ends", x.hollow(), 0);
        way(x, 3, 1, 8);
        due("1, 2, 3", x.hollow(), 14);
        both(x, 6, 7, 1, 1);
        way(x, 5, 6, 1);
        due("two of them", x.hollow(), 14 + 64 + 128);
        x.shut(3, 1, true);
        due("shut", x.hollow(), 64 + 128);
        x = land(10);
        for (int i = 0; i < 10; i++) {
            way(x, i, (i + 1) % 10, 1);
        }
        due("all", x.hollow(), 1023);
    }

    private static void feed() {
        LongerBack x = new LongerBack();
        due("n 0", x.feed(1, 0), BEYOND);
        due("n 5", x.feed(1, 5), BEYOND);
        due("n MIN", x.feed(1, MIN), BEYOND);
        due("4", x.feed(0x706c6163, 4), 4);
        due("its lowest one", x.feed(0x12345665, 1), 5);
        due("it is place", x.land(), 1);
        due("2", x.feed(0x7fff706c, 2), 2);
        due("3", x.feed(0x7f616365, 3), 5);
        due("it is place", x.land(), 1);
        for (int i = 1; i <= 29; i++) {
            due("feed", x.feed(0x80ffffff, 4), 4 * i);
        }
        due("119", x.feed(0, 3), 119);
        due("121", x.feed(0, 2), FULL);
        due("120", x.feed(0, 1), 120);
        due("a byte more", x.feed(0, 1), FULL);
        due("BEYOND ahead of FULL", x.feed(0, 5), BEYOND);
        due("count(4)", x.count(4), 120);
    }

    private static void wipe() {
        LongerBack x = new LongerBack();
        feed(x, "place");
        due("it had", x.wipe(), 5);
        due("it has", x.wipe(), 0);
        due("it begins anew", tell(x, "place"), 1);
    }

    private static void landFaults() {
        LongerBack x = land(3);
        String[] whole = {
            "", "place;", "place ;  ", "places", "place 5", "place errands", "place errands 100", "place errands -1",
            "place errands 99 errands", "way", "way 3 0 1", "way 0 3 1", "way 0 0 1", "way 00 0 1", "way 0 1", "way 0 1 -",
            "way 0 1 1000", "way 0 1 - 100", "way 0 1 --5", "way 0 1 5 to 4", "way 0 1 5 to -3", "way 0 1 5 to 1000",
            "way 0 1 5 back 1000", "way 0 1 5 back -100", "way 0 1 5 back 3 to 9", "way 0 1 5 to 9 to 9", "walk 0 all 5",
            "walk 0 0 all 5", "walk 0 1 1 all 5", "walk 0 3 all 5", "walk 0 1 0 1 0 1 0 all 5", "walk 0 1", "walk 0 1 all 10000",
            "walk 0 1 all -10000", "walk 0 1 all 5 slack 100", "walk 0 1 all 5 slack -1", "walk 0 1 slack 5", "Place", "place, place",
            "place;;place", ";place", "road", "place\tplace", "place errands 12345", "way 0 1 99999999999999999999", "walk -1 0 all 5",
            "walk 0 1 all", "walk all 5", "place place", "way 0 1 5 5", "\u0000", "place \u00ff", "pla ce",
            "way 0", "way 0;place", "way 0 1 5 to", "way 0 1 5 to ;place", "way 0 1 5 back", "way 0 1 5 to 6 back -", "walk", "walk;place",
            "walk 0", "walk 0 1;place", "walk 0 1 all -", "walk 0 1 all 5 slack", "walk 0 1 all 5 slack ;place",
            "xlace", "xay 0 1 5", "xalk 0 1 all 5", "place xrrands 5", "way 0 1 5 xo 6", "way 0 1 5 xack 6", "walk 0 1 xll 5",
            "walk 0 1 all 5 xlack 5", "placez", "placea", "place`", "place{", "place/", "place:", "place errands 5:", "place errands 5/",
        };
        int[] faults = {
            0, 6, 9, 0, 6, 13, 14, 14,
            17, 3, 4, 6, 6, 7, 7, 9,
            8, 10, 9, 13, 14, 13,
            15, 16, 17, 15, 7,
            7, 9, 7, 17, 8, 13,
            14, 21, 21, 9, 0, 5,
            6, 0, 0, 5, 14, 8, 5,
            12, 5, 6, 10, 0, 6, 0,
            5, 5, 12, 13, 14, 21, 4, 4,
            6, 8, 14, 20, 21,
            0, 0, 0, 6, 10, 10, 9,
            15, 0, 0, 5, 5, 5, 5, 15, 15,
        };
        due("as many", whole.length, faults.length);
        for (int i = 0; i < whole.length && i < faults.length; i++) {
            due("land() of '" + whole[i] + "'", tell(x, whole[i]), -1 - faults[i]);
            due("count(4)", x.count(4), 0);
        }
        due("no PLACE came", x.count(0), 3);
        due("no WAY came", x.count(1), 0);
        due("no WALK came", x.count(3), 0);
        due("no finding", x.status(-1), 0);
    }

    private static void land() {
        landFaults();
        LongerBack x = new LongerBack();
        due("two", tell(x, "place errands 90;place"), 2);
        due("errands(0, 7)", x.errands(0, 7), 90);
        due("errands(0, 0)", x.errands(0, 0), 7);
        due("there by then", tell(x, "place;way 2 0 4 to 9 back -5;way0 1- 99to-98"), 3);
        ends(x, 2, 0, 4, 9);
        ends(x, 0, 2, -5, -5);
        ends(x, 0, 1, -99, -98);
        due("not yet there", tell(x, "way 3 0 4;place"), -5);
        x.shut(0, 1, true);
        due("a WAY anew", tell(x, "  way 0 1 0003 to 999  "), 1);
        due("is open", x.wayOf(0, 1, 2), 0);
        ends(x, 0, 1, 3, 999);
        due("a WALK", tell(x, "walk 0 1 all 50 slack 2"), 1);
        due("lies", x.lies(), 0);
        due("learn", x.learn(), 1);
        ends(x, 0, 1, 48, 52);
        due("without SLACK", tell(x, "walk 0 1 all 49 ; walk 0 2 0 2 0 2 all -9999"), 2);
        due("6 in it", x.on(2, 0), FULL);
        due("learn", x.learn(), 1);
        ends(x, 0, 1, 49, 49);
        due("8 in all", tell(x, "walk 0 1 all 1;walk 0 1 all 1;walk 0 1 all 1;walk 0 1 all 1;walk 0 1 all 1"), 5);
        due("a 9th", tell(x, "place;walk 0 1 all 1"), -7);
        due("nothing of it came", x.count(0), 3);
        due("10", tell(x, "place;place;place;place;place;place;place"), 7);
        due("an 11th", tell(x, "way 0 9 1; place"), -12);
        due("nothing of it came", x.wayOf(0, 9, 0), NONE);
        StringBuilder filled = new StringBuilder("way 0 9 1");
        while (filled.length() < 120) {
            filled.append(' ');
        }
        due("120 bytes", tell(x, filled.toString()), 1);
        filled.setCharAt(119, ';');
        due("120 bytes, too early", tell(x, filled.toString()), -121);
    }

    private static void sheets() {
        LongerBack x = new LongerBack();
        due("8", x.sheet(0, 8, 40), 40);
        due("16", x.sheet(3, 16, 0), 0);
        due("64", x.sheet(1, 64, 3), 3);
        due("4", x.sheet(4, 8, 3), BEYOND);
        due("-1", x.sheet(-1, 8, 3), BEYOND);
        due("32 bits", x.sheet(0, 32, 3), BEYOND);
        due("other bits ahead of SIZE", x.sheet(0, 9, -3), BEYOND);
        due("below 0", x.sheet(0, 8, -1), SIZE);
        due("below 0, MISSING", x.sheet(0, 0, MIN), SIZE);
        due("above 40", x.sheet(0, 8, 41), BEYOND);
        due("above 40, MISSING", x.sheet(0, 0, MAX), BEYOND);
        x.write(0, 39, 5);
        due("still there", x.write(0, 39, 5), 5);
        due("anew", x.sheet(0, 8, 40), 40);
        due("all 0", x.write(0, 39, 5), 0);
        due("MISSING", x.sheet(0, 0, 7), 0);
        due("it is", x.write(0, 0, 0), MISSING);
        due("empty is not MISSING", x.write(3, 0, 0), BEYOND);
    }

    private static void write() {
        LongerBack x = new LongerBack();
        x.sheet(0, 8, 2);
        x.sheet(1, 16, 2);
        x.sheet(2, 64, 2);
        for (int s = 0; s < 3; s++) {
            due("it was 0", x.write(s, 1, -99), 0);
            due("it was -99", x.write(s, 1, 0x123456789abcdef0L), -99);
        }
        due("8 bits", x.write(0, 1, 127), -16);
        due("16 bits", x.write(1, 1, 32767), (short) 0xdef0);
        due("64 bits", x.write(2, 1, Long.MIN_VALUE), 0x123456789abcdef0L);
        due("8 bits", x.write(0, 1, 128), 127);
        due("16 bits", x.write(1, 1, 32768), 32767);
        due("64 bits", x.write(2, 1, BEYOND), Long.MIN_VALUE);
        due("8 bits", x.write(0, 1, 0), -128);
        due("16 bits", x.write(1, 1, 0), -32768);
        due("what looks like a finding", x.write(2, 1, 0), BEYOND);
        due("and is none", x.status(-1), 0);
        due("no number", x.write(0, 2, 0), BEYOND);
        due("no number", x.write(0, -1, 0), BEYOND);
        due("MISSING", x.write(3, 99, 0), MISSING);
        due("no sheet", x.write(4, 0, 0), BEYOND);
        due("no sheet", x.write(-1, 0, 0), BEYOND);
    }

    private static void copy() {
        LongerBack x = new LongerBack();
        sheet(x, 0, 16, 1, 2, 3, 4, 5);
        sheet(x, 1, 16, 0, 0, 0);
        sheet(x, 2, 64, 0, 0, 0);
        due("three", x.copy(0, 1, 1, 0, 3), 3);
        due("0", x.write(1, 0, 0), 2);
        due("2", x.write(1, 2, 0), 4);
        due("on itself", x.copy(0, 0, 0, 1, 4), 4);
        due("0", x.write(0, 0, 9), 1);
        due("1", x.write(0, 1, 9), 1);
        due("4", x.write(0, 4, 9), 4);
        due("none, behind the last", x.copy(0, 5, 1, 3, 0), 0);
        due("none, further", x.copy(0, 6, 1, 0, 0), BEYOND);
        due("too many there", x.copy(0, 0, 1, 0, 4), BEYOND);
        due("too many here", x.copy(0, 3, 1, 0, 3), BEYOND);
        due("from -1", x.copy(0, -1, 1, 0, 1), BEYOND);
        due("to -1", x.copy(0, 0, 1, -1, 1), BEYOND);
        due("n -1", x.copy(0, 0, 1, 0, -1), BEYOND);
        due("n MAX", x.copy(0, MAX, 1, MAX, MAX), BEYOND);
        due("other bits", x.copy(0, -1, 2, 0, 1), KIND);
        due("MISSING", x.copy(0, 0, 3, 0, 1), MISSING);
        due("MISSING", x.copy(3, 0, 0, 0, 1), MISSING);
        due("no sheet", x.copy(3, 0, 4, 0, 1), BEYOND);
        due("no sheet", x.copy(-1, 0, 0, 0, 1), BEYOND);
    }

    private static void lays() {
        LongerBack x = land(5);
        x.way(1, 3, 5, 9);
        x.way(1, 4, 5, 9);
        x.shut(1, 4, true);
        sheet(x, 0, 64, -99, 7, 999, 1000, 0, 1, 2);
        due("three came", x.lays(0, 1), 3);
        ends(x, 1, 0, -99, -99);
        ends(x, 1, 2, 999, 999);
        ends(x, 1, 3, 5, 9);
        ends(x, 1, 4, 0, 0);
        due("open", x.wayOf(1, 4, 2), 0);
        due("in all", x.count(1), 4);
        sheet(x, 0, 64, -100, 1L << 32, Long.MIN_VALUE);
        due("none came", x.lays(0, 4), 0);
        sheet(x, 0, 8, -100, 100);
        due("one came", x.lays(0, 4), 1);
        due("no PLACE", x.lays(0, 5), BEYOND);
        due("MISSING ahead of no PLACE", x.lays(1, 5), MISSING);
        due("no sheet", x.lays(4, 0), BEYOND);
    }

    private static int readOf(LongerBack x, long... row) {
        sheet(x, 0, 64, row);
        return x.read(0);
    }

    private static void read() {
        LongerBack x = land(4);
        both(x, 0, 1, 2, 2);
        both(x, 1, 2, 2, -2);
        way(x, 0, 2, 5);
        way(x, 2, 3, 1);
        due("FAR", readOf(x, 0, 1, 2), 0);
        due("not FAR", readOf(x, 0, 2), 3);
        due("round for nothing", readOf(x, 0, 1, 2, 1, 2, 3), 0);
        due("back to itself", readOf(x, 1, 2, 1), 0);
        due("back to itself for more", readOf(x, 0, 1, 0), 4);
        due("no PLACE", readOf(x, 0, 1, 4), 3);
        due("no PLACE at first", readOf(x, -1, 9), 1);
        due("no PLACE, of many bits", readOf(x, 0, 1L << 32), 2);
        due("no WAY", readOf(x, 0, 1, 3, 9), 3);
        due("to itself no WAY", readOf(x, 0, 0), 2);
        due("one", readOf(x, 0), 1);
        due("none", readOf(x), 1);
        x.shut(0, 1, true);
        due("shut", readOf(x, 0, 1, 2), 2);
        due("FAR now", readOf(x, 0, 2), 0);
        due("no sheet", x.read(4), BEYOND);
        due("no sheet", x.read(-1), BEYOND);
        way(x, 2, 1, -3);
        due("a LOOP", x.read(0), STATE);
        due("a LOOP, none in it", readOf(x), STATE);
        due("MISSING ahead of STATE", x.read(1), MISSING);
    }

    private static void image() {
        LongerBack x = land(2);
        x.way(0, 1, 3, 4);
        x.shut(0, 1, true);
        x.errands(1, 9);
        round(x, 6, 0, 1);
        x.walk(0, 1, 17, 5);
        feed(x, "pla");
        sheet(x, 0, 8, 5);
        due("image()", x.image(), 1);
        x.place();
        x.shut(0, 1, false);
        x.way(0, 1, 7, 8);
        way(x, 1, 0, 1);
        x.errands(1, 0);
        x.over(0, 1);
        x.round(0, 0);
        x.on(0, 0);
        x.walk(1, 0, 0, 0);
        x.feed('c', 1);
        x.write(0, 0, 6);
        due("undo()", x.undo(), 2);
        ends(x, 0, 1, 3, 4);
        due("shut", x.wayOf(0, 1, 2), 1);
        due("WAYS", x.count(1), 1);
        due("ERRANDS", x.count(5), 9);
        due("ROUNDS", x.count(2), 1);
        due("its kind", x.roundOf(0, -1), 6);
        due("its PLACES", x.roundOf(0, -2), 2);
        due("WALKS", x.count(3), 1);
        due("lies", x.lies(), 1);
        due("its PLACES", x.on(0, 0), 3);
        due("THE TAPE not", x.count(4), 4);
        due("sheets not", x.write(0, 0, 0), 6);
    }

    private static void undo() {
        LongerBack x = new LongerBack();
        due("nothing is kept", x.undo(), NONE);
        x.image();
        x.place();
        due("to none", x.undo(), 0);
        due("again", x.undo(), 0);
        x.place();
        x.image();
        x.place();
        x.place();
        due("to the latest", x.undo(), 1);
        due("place()", x.place(), 1);
        due("errands", x.errands(1, 5), 0);
        due("which stays", x.undo(), 1);
        due("place()", x.place(), 1);
        due("a new one has none", x.errands(1, 5), 0);
        x.sum(0);
        x.undo();
        due("status(-1)", x.status(-1), 2);
    }

    private static void tear() {
        LongerBack x = new LongerBack();
        due("nothing", x.tear(), 0);
        x.image();
        x.image();
        due("something", x.tear(), 1);
        due("nothing more", x.tear(), 0);
        due("undo()", x.undo(), NONE);
    }

    private static void count() {
        LongerBack x = land(3);
        way(x, 0, 1, 1);
        way(x, 1, 0, 1);
        way(x, 1, 0, 2);
        x.shut(1, 0, true);
        x.errands(0, 99);
        x.errands(2, 3);
        x.round(0, 0);
        x.walk(0, 1, 0, 0);
        x.walk(0, 2, 0, 0);
        x.feed(0, 4);
        due("PLACES", x.count(0), 3);
        due("WAYS", x.count(1), 2);
        due("ROUNDS", x.count(2), 1);
        due("WALKS", x.count(3), 2);
        due("bytes", x.count(4), 4);
        due("ERRANDS", x.count(5), 102);
        due("6", x.count(6), BEYOND);
        due("-1", x.count(-1), BEYOND);
        due("MAX", x.count(MAX), BEYOND);
    }

    private static void status() {
        LongerBack x = land(10);
        x.place();
        x.round(0, 0);
        x.as(0, 1);
        x.as(0, 2);
        x.far(0, 1);
        x.far(0, 10);
        both(x, 0, 1, 0, -1);
        x.far(0, 1);
        x.write(0, 0, 0);
        x.sheet(0, 8, -1);
        int[] want = {1, 1, 2, 1, 1, 1, 1};
        for (int which = 0; which < 7; which++) {
            due("status(" + which + ")", x.status(which), want[which]);
        }
        due("all", x.status(-1), 8);
        due("7", x.status(7), BEYOND);
        due("-2", x.status(-2), BEYOND);
        due("both are counted", x.status(0), 3);
        due("all", x.status(-1), 10);
    }

    private static void run(int number) {
        promise = number;
        switch (number) {
            case 1: newObject(); break;
            case 2: place(); break;
            case 3: errands(); break;
            case 4: way(); break;
            case 5: wayOf(); break;
            case 6: shut(); break;
            case 7: far(); break;
            case 8: by(); break;
            case 9: loops(); break;
            case 10: longer(); break;
            case 11: rounds(); break;
            case 12: over(); break;
            case 13: sum(); break;
            case 14: roundOf(); break;
            case 15: as(); break;
            case 16: live(); break;
            case 17: trip(); break;
            case 18: meet(); break;
            case 19: fit(); break;
            case 20: height(); break;
            case 21: paper(); break;
            case 22: worst(); break;
            case 23: walk(); break;
            case 24: on(); break;
            case 25: learn(); break;
            case 26: lies(); break;
            case 27: known(); break;
            case 28: ask(); break;
            case 29: saves(); break;
            case 30: mend(); break;
            case 31: goes(); break;
            case 32: hollow(); break;
            case 33: feed(); break;
            case 34: wipe(); break;
            case 35: land(); break;
            case 36: sheets(); break;
            case 37: write(); break;
            case 38: copy(); break;
            case 39: lays(); break;
            case 40: read(); break;
            case 41: image(); break;
            case 42: undo(); break;
            case 43: tear(); break;
            case 44: count(); break;
            default: status();
        }
    }

    public static void main(String[] args) {
        for (int number = 1; number <= 45; number++) {
            int before = asked;
            run(number);
            if (asked == before) {
                wrong++;
                System.out.println("promise " + number + " has no test");
            }
        }
        System.out.println(wrong == 0 ? "all " + asked + " answers are as due" : wrong + " answers are not as due");
        if (wrong != 0) {
            System.exit(1);
        }
    }
}
