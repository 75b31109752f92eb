/** For how many calls an object is used: the last of them is answered as well as the first one. */
public final class EdgeUseTest {
    private static final int CALLS = 512;
    private static final long EIGHT = 0x6867666564636261L;

    private static void feeds(Desk desk) {
        Mill mill = new Mill();
        for (int k = 1; k < CALLS; k++) {
            desk.same("feed number " + k, mill.feed(EIGHT, 8), 8 * k);
        }
        desk.same("a run as the last call", mill.run(Desk.MUCH), 0);
    }

    private static void texts(Desk desk) {
        Mill mill = new Mill();
        for (int k = 0; k < CALLS / 2; k++) {
            desk.same("feed behind " + k + " clears", mill.feed(EIGHT, 1 + k % 8), 1 + k % 8);
            desk.same("clear number " + k, mill.clear(), 1 + k % 8);
        }
    }

    /** If anything of a run stayed, 490 of them would be too much for the meanings or the diversions. */
    private static void runs(Desk desk) {
        Mill mill = Desk.fed("pushdef(`a',`" + "x".repeat(80) + "')divert(1)a");
        while (mill.left() > 3) {
            desk.same("a run with " + mill.left() + " calls left", mill.run(1000), 0);
        }
        desk.same("told(2) of the last run", mill.told(2), 1);
        desk.same("told(3) of the last run", mill.told(3), 81);
        desk.same("size() of the last run", mill.size(), 80);
    }

    private static void runsWithErrors(Desk desk) {
        Mill mill = Desk.fed("\n\nlen(len(len(x,y");
        while (mill.left() > 3) {
            desk.same("a run with " + mill.left() + " calls left", mill.run(1000), 33);
            desk.same("told(0) with " + mill.left() + " calls left", mill.told(0), 3);
        }
    }

    private static Mill almostUsed() {
        Mill mill = Desk.fed("abcdefgh");
        mill.run(100);
        while (mill.left() > 1) {
            mill.size();
        }
        return mill;
    }

    private static void lastCalls(Desk desk) {
        desk.same("feed", almostUsed().feed(EIGHT, 3), 11);
        desk.same("again", almostUsed().again(2, 6), 14);
        desk.same("clear", almostUsed().clear(), 8);
        desk.same("run", almostUsed().run(7), 31);
        desk.same("told", almostUsed().told(1), 8);
        desk.same("size", almostUsed().size(), 8);
        desk.same("word", almostUsed().word(0), EIGHT);
        desk.same("again that is BAD", almostUsed().again(2, 7), RescanMill.BAD);
    }

    public static void main(String[] args) {
        Desk desk = new Desk("What it is");
        desk.about("An object is used for at most 512 calls after it has been made");
        feeds(desk);
        texts(desk);
        runs(desk);
        runsWithErrors(desk);
        lastCalls(desk);
        desk.end();
    }
}
