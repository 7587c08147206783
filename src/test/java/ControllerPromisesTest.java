/** Promises 9 to 14, 17 and 22: blocks, transfers, frames, and what came of them. */
public final class ControllerPromisesTest {
    private static final int[] NEVER = {Integer.MIN_VALUE, -1, Integer.MAX_VALUE};

    public static void main(String[] args) {
        Check.end(block(), transferNumbers(), transferDeeds(), close(), retries(), period(), run(), result(), count());
    }

    private static TwinLines withFiveAndSix() {
        TwinLines x = new TwinLines();
        x.terminal(5, 8);
        x.terminal(6, 4);
        return x;
    }

    private static Check block() {
        Check check = new Check("promise 9");
        TwinLines x = new TwinLines();
        for (int block = 0; block < 16; block++) {
            for (int k = 31; k >= 0; k -= k > 3 ? 7 : 1) {
                check.due("block first", x.block(block, k, block * 32 + k + 1), 0);
            }
        }
        for (int block = 0; block < 16; block++) {
            check.due("block stays", x.block(block, 31, -1), block * 32 + 32);
            check.due("block then", x.block(block, 31, 65_535), block * 32 + 32);
            check.due("block last", x.block(block, 31, 0), 65_535);
        }
        for (int bad : new int[] {Integer.MIN_VALUE, -2, 65_536, Integer.MAX_VALUE}) {
            check.due("block " + bad, x.block(bad, 0, 1), -1);
            check.due("index " + bad, x.block(0, bad, 1), -1);
            check.due("word " + bad, x.block(0, 0, bad), -1);
        }
        check.due("block 16", x.block(16, 0, 1), -1);
        check.due("block -1", x.block(-1, 0, 1), -1);
        check.due("index 32", x.block(0, 32, 1), -1);
        check.due("index -1", x.block(0, -1, 1), -1);
        check.due("nothing changed", x.block(0, 0, -1), 1);
        return check;
    }

    private static Check transferNumbers() {
        Check check = new Check("promise 10");
        TwinLines x = new TwinLines();
        // kind, from, fromPlace, to, toPlace, count, block, line: each one good, with bounds to leave
        int[][] good = {{0, 99, 99, 31, 30, 32, 15, 1}, {1, 30, 30, 99, 99, 32, 15, 1}, {2, 30, 30, 31, 30, 32, 99, 1},
            {3, 99, 99, 30, 21, 99, 15, 1}, {0, -9, -9, 0, 1, 1, 0, 0}, {1, 0, 1, -9, -9, 1, 0, 0},
            {2, 0, 1, 1, 1, 1, -9, 0}, {3, -9, -9, 0, 0, -9, 0, 0}};
        int[][] most = {{3, 0, 0, 31, 30, 32, 15, 1}, {3, 30, 30, 0, 0, 32, 15, 1}, {3, 30, 30, 31, 30, 32, 0, 1},
            {3, 0, 0, 31, 21, 0, 15, 1}};
        boolean[][] has = {{true, false, false, true, true, true, true, true},
            {true, true, true, false, false, true, true, true}, {true, true, true, true, true, true, false, true},
            {true, false, false, true, true, false, true, true}};
        int[] least = {0, 0, 1, 0, 1, 1, 0, 0};
        int told = 0;
        for (int[] row : good) {
            int kind = row[0];
            for (int i = 1; i < 8; i++) {
                int low = kind == 3 && i == 4 ? 0 : least[i];
                for (int bad : new int[] {low - 1, most[kind][i] + 1, Integer.MIN_VALUE, Integer.MAX_VALUE}) {
                    int[] other = row.clone();
                    other[i] = bad;
                    if (has[kind][i]) {
                        check.due("transfer with " + bad + " at " + i + " of kind " + kind, tell(x, other), -1);
                    }
                }
            }
            check.due("transfer of kind " + kind, tell(x, row), told);
            told++;
        }
        check.due("kind 4", tell(x, new int[] {4, 0, 1, 1, 1, 1, 0, 0}), -1);
        check.due("kind -1", tell(x, new int[] {-1, 0, 1, 1, 1, 1, 0, 0}), -1);
        check.due("between one and itself", tell(x, new int[] {2, 7, 1, 7, 1, 1, 0, 0}), -1);
        check.due("transfers", x.count(4), told);
        for (; told < 24; told++) {
            check.due("transfer " + told, tell(x, good[told % 8]), told);
        }
        check.due("a 25th", tell(x, good[0]), -1);
        check.due("transfers at last", x.count(4), 24);
        codes(check);
        return check;
    }

    private static void codes(Check check) {
        for (int code = -1; code <= 64; code++) {
            boolean one = code >= 0 && code <= 8 || code >= 16 && code <= 21;
            boolean all = code == 1 || code >= 3 && code <= 8 || code == 17 || code == 20 || code == 21;
            check.due("code " + code, tell(new TwinLines(), new int[] {3, 0, 0, 4, code, 0, 0, 0}), one ? 0 : -1);
            check.due("code to ALL " + code, tell(new TwinLines(), new int[] {3, 0, 0, 31, code, 0, 0, 0}), all ? 0 : -1);
        }
    }

    private static int tell(TwinLines x, int[] row) {
        return x.transfer(row[0], row[1], row[2], row[3], row[4], row[5], row[6], row[7]);
    }

    /** What is said for each kind, word by word. */
    private static Check transferDeeds() {
        Check check = new Check("promise 10, as it is run");
        TwinLines x = withFiveAndSix();
        x.hold(5, 3, 0, 70);
        x.hold(5, 3, 1, 71);
        x.block(1, 0, 80);
        x.block(1, 1, 81);
        x.transfer(0, 0, 0, 6, 7, 2, 1, 1);
        x.transfer(1, 5, 3, 0, 0, 2, 2, 0);
        x.transfer(2, 5, 3, 6, 9, 2, 0, 1);
        x.transfer(3, 0, 0, 6, 17, 0, 1, 0);
        x.transfer(3, 0, 0, 6, 18, 0, 3, 0);
        x.close();
        check.due("run", x.run(1), 5);
        int out = 6 * 2_048 + 7 * 32 + 2;
        int in = 5 * 2_048 + 1_024 + 3 * 32 + 2;
        int to = 6 * 2_048 + 9 * 32 + 2;
        int clock = 6 * 2_048 + 17;
        int ask = 6 * 2_048 + 1_024 + 18;
        int five = 5 * 2_048;
        int six = 6 * 2_048;
        // bits, sort, line, who, when
        int[][] words = {{out, 1, 1, 32, 0}, {80, 0, 1, 32, 20}, {81, 0, 1, 32, 40}, {six, 1, 1, 6, 64},
            {in, 1, 0, 32, 88}, {five, 1, 0, 5, 116}, {70, 0, 0, 5, 136}, {71, 0, 0, 5, 156},
            {to, 1, 1, 32, 180}, {in, 1, 1, 32, 200}, {five, 1, 1, 5, 228}, {70, 0, 1, 5, 248}, {71, 0, 1, 5, 268},
            {six, 1, 1, 6, 292},
            {clock, 1, 0, 32, 316}, {80, 0, 0, 32, 336}, {six, 1, 0, 6, 360},
            {ask, 1, 0, 32, 384}, {six, 1, 0, 6, 408}, {clock, 0, 0, 6, 428}};
        check.due("words said", x.count(1), words.length);
        for (int i = 0; i < words.length; i++) {
            for (int what = 0; what < 5; what++) {
                check.due("word " + i + ", " + what, x.heard(words.length - i, what), words[i][what]);
            }
        }
        check.due("time", x.count(0), 452);
        check.due("got of OUT", x.got(6, 7, 1), 81);
        check.due("block of IN", x.block(2, 1, -1), 71);
        check.due("got of BETWEEN", x.got(6, 9, 0), 70);
        check.due("clock", x.told(6, 2), 80);
        check.due("block of MODE", x.block(3, 0, -1), clock);
        check.due("OUT leaves its block", x.block(1, 0, -1), 80);
        check.due("BETWEEN leaves block 0", x.block(0, 0, -1), 0);
        return check;
    }

    private static Check close() {
        Check check = new Check("promise 11");
        TwinLines x = withFiveAndSix();
        check.due("none told", x.close(), -1);
        for (int frame = 0; frame < 8; frame++) {
            for (int i = 0; i <= frame % 3; i++) {
                x.transfer(3, 0, 0, 5, 0, 0, 0, 0);
            }
            check.due("close", x.close(), frame);
            check.due("close at once", x.close(), -1);
        }
        x.transfer(3, 0, 0, 5, 0, 0, 0, 0);
        check.due("a ninth", x.close(), -1);
        check.due("frames", x.count(5), 8);
        for (int frame = 0; frame < 16; frame++) {
            check.due("next", x.count(7), frame % 8);
            check.due("transfers in frame " + frame % 8, x.run(1), frame % 8 % 3 + 1);
        }
        return check;
    }

    private static Check retries() {
        Check check = new Check("promise 12");
        TwinLines x = new TwinLines();
        x.transfer(1, 7, 1, 0, 0, 1, 0, 1);
        x.close();
        for (int many = 0; many <= 2; many++) {
            check.due("retries(" + many + ")", x.retries(many), true);
            for (int bad : new int[] {Integer.MIN_VALUE, -1, 3, Integer.MAX_VALUE}) {
                check.due("retries(" + bad + ")", x.retries(bad), false);
            }
            check.due("run", x.run(1), 0);
            check.due("attempts", x.result(0, 1), 2 * many + 2);
            check.due("last line", x.result(0, 2), 0);
            for (int back = 1; back <= 2 * many + 2; back++) {
                check.due("line " + back + " back", x.heard(back, 2), back <= many + 1 ? 0 : 1);
            }
        }
        return check;
    }

    private static Check period() {
        Check check = new Check("promise 13");
        TwinLines x = withFiveAndSix();
        x.transfer(3, 0, 0, 6, 0, 0, 0, 0);
        x.close();
        check.due("period", x.period(48), true);
        for (int bad : new int[] {Integer.MIN_VALUE, -1, 100_001, Integer.MAX_VALUE}) {
            check.due("period(" + bad + ")", x.period(bad), false);
        }
        check.due("each frame takes 48", x.run(4), 4);
        check.due("just in time", x.count(3), 0);
        check.due("time", x.count(0), 192);
        check.due("period 47", x.period(47), true);
        x.run(1);
        check.due("late", x.count(3), 1);
        check.due("at once", x.count(0), 240);
        check.due("period 100000", x.period(100_000), true);
        x.run(1);
        check.due("late still", x.count(3), 1);
        check.due("waited", x.count(0), 500_048);
        check.due("its answer began", x.heard(1, 4), 500_024);
        check.due("period 0", x.period(0), true);
        x.run(2);
        check.due("late twice more", x.count(3), 3);
        check.due("time at last", x.count(0), 500_144);
        return check;
    }

    private static Check run() {
        Check check = new Check("promise 14");
        TwinLines x = withFiveAndSix();
        check.due("no frames", x.run(1), -1);
        x.transfer(3, 0, 0, 5, 0, 0, 0, 0);
        x.transfer(3, 0, 0, 7, 0, 0, 0, 0);
        check.due("none closed", x.run(1), -1);
        x.close();
        for (int bad : new int[] {Integer.MIN_VALUE, -1, 0, 9, Integer.MAX_VALUE}) {
            check.due("run(" + bad + ")", x.run(bad), -1);
        }
        check.due("nothing changed", x.count(2), 0);
        check.due("run(8)", x.run(8), 8);
        check.due("frames run", x.count(2), 8);
        x.transfer(3, 0, 0, 6, 0, 0, 0, 0);
        check.due("not closed yet", x.run(1), 1);
        check.due("not run", x.result(2, 0), 0);
        x.close();
        check.due("0 again behind the last one, also when one more came", x.run(1), 1);
        check.due("the new one is next", x.count(7), 1);
        check.due("the new one not run", x.told(6, 5), 0);
        check.due("both in turn", x.run(3), 3);
        check.due("the new one run", x.told(6, 5), 2);
        check.due("next", x.count(7), 0);
        return check;
    }

    private static Check result() {
        Check check = new Check("promise 17");
        TwinLines x = withFiveAndSix();
        x.hold(5, 1, 0, 44);
        x.transfer(2, 5, 1, 6, 1, 1, 0, 0);
        x.transfer(0, 0, 0, 31, 1, 1, 0, 1);
        for (int what = 0; what <= 5; what++) {
            check.due("before " + what, x.result(0, what), what == 4 ? -1 : 0);
        }
        for (int bad : NEVER) {
            check.due("transfer " + bad, x.result(bad, 0), -1);
            check.due("what " + bad, x.result(0, bad), -1);
        }
        check.due("transfer 2", x.result(2, 0), -1);
        check.due("what 6", x.result(0, 6), -1);
        x.close();
        x.note(6, 4, true);
        check.due("run", x.run(1), 2);
        row(check, x, 0, new int[] {1, 1, 0, 0, 6 * 2_048 + 4, 40 + 28 + 20 + 24 + 4});
        row(check, x, 1, new int[] {1, 1, 1, 0, -1, 116 + 44});
        x.note(6, 8, true);
        check.due("run while busy", x.run(1), 1);
        row(check, x, 0, new int[] {2, 4, 1, 4, 6 * 2_048 + 12, 1_000 + 4 * 116});
        x.note(6, 8, false);
        x.listens(6, 0, false);
        check.due("run on the other line", x.run(1), 2);
        row(check, x, 0, new int[] {1, 3, 1, 0, 6 * 2_048 + 4, 2_000 + 2 * (116 - 24 + 14) + 116});
        x.listens(6, 1, false);
        check.due("run without one", x.run(1), 1);
        row(check, x, 0, new int[] {2, 4, 1, 1, 5 * 2_048, 3_000 + 4 * (116 - 24 + 14)});
        x.listens(5, 0, false);
        x.listens(5, 1, false);
        check.due("run without both", x.run(1), 1);
        row(check, x, 0, new int[] {2, 4, 1, 1, -1, 4_000 + 4 * (40 + 14 + 4)});
        why(check);
        return check;
    }

    private static void row(Check check, TwinLines x, int transfer, int[] want) {
        for (int what = 0; what <= 5; what++) {
            check.due("result(" + transfer + ", " + what + ")", x.result(transfer, what), want[what]);
        }
    }

    /** Each WHY, of an IN of one word whose status is word 1 and whose data is word 2. */
    private static void why(Check check) {
        long sync = 63L << 34;
        long noBit = 1L << 20;
        // the word altered, in what, WHY, the status in the result
        long five = 5 * 2_048;
        long[][] rows = {{1, noBit, 2, -1}, {1, sync, 2, -1}, {1, 3L << 24 | 3, 3, five ^ 2_048},
            {1, 3L << 22 | 3, 4, five + 1_024}, {1, 3L << 8 | 3, 4, five + 8}, {1, 3L << 10 | 3, 0, five + 16},
            {2, noBit, 2, five}, {2, sync, 2, five}, {0, 3L << 4 | 3, 2, five}, {0, 1, 1, -1}};
        for (long[] altered : rows) {
            TwinLines x = withFiveAndSix();
            x.hold(5, 1, 0, 44);
            x.block(7, 0, 3);
            x.retries(0);
            x.transfer(1, 5, 1, 0, 0, 1, 7, 0);
            x.close();
            // The other line says the same: both attempts are altered alike.
            x.alter((int) altered[0], altered[1]);
            int first = altered[0] == 0 && altered[1] == 1 ? 1 : altered[0] == 0 ? 5 : 3;
            x.alter(first + (int) altered[0], altered[1]);
            String name = "why of word " + altered[0] + " altered in " + altered[1];
            check.due(name + ": run", x.run(1), altered[2] == 0 ? 1 : 0);
            check.due(name, x.result(0, 3), altered[2]);
            check.due(name + ": status", x.result(0, 4), altered[3]);
            check.due(name + ": block", x.block(7, 0, -1), altered[2] == 0 ? 44 : 3);
        }
    }

    private static Check count() {
        Check check = new Check("promise 22");
        TwinLines x = withFiveAndSix();
        for (int bad : NEVER) {
            check.due("count(" + bad + ")", x.count(bad), -1);
        }
        check.due("count(8)", x.count(8), -1);
        x.transfer(3, 0, 0, 5, 0, 0, 0, 0);
        x.close();
        x.transfer(3, 0, 0, 6, 0, 0, 0, 0);
        x.close();
        x.transfer(3, 0, 0, 6, 0, 0, 0, 0);
        x.alter(0, 1);
        x.alter(100, 1);
        x.period(0);
        check.due("altered to come", x.count(6), 2);
        x.run(3);
        int[] want = {38 + 52 + 48 + 52, 7, 3, 2, 3, 2, 1, 1};
        for (int what = 0; what <= 7; what++) {
            check.due("count(" + what + ")", x.count(what), want[what]);
        }
        return check;
    }
}
