/** Promises 15, 19, 20 and 21: words as halves, altered ones, and what was heard. */
public final class WordPromisesTest {
    private static final long SYNC = 63L << 34;

    public static void main(String[] args) {
        Check.end(alter(), heard(), halves(), word());
    }

    private static TwinLines withOut(int words) {
        TwinLines x = new TwinLines();
        x.terminal(5, 8);
        x.retries(0);
        x.transfer(0, 0, 0, 5, 1, words, 0, 0);
        x.close();
        return x;
    }

    private static Check alter() {
        Check check = new Check("promise 15");
        TwinLines x = withOut(2);
        for (int bad : new int[] {Integer.MIN_VALUE, -1, 5_001, Integer.MAX_VALUE}) {
            check.due("alter(" + bad + ")", x.alter(bad, 1), false);
        }
        for (long bad : new long[] {Long.MIN_VALUE, -1, 0, 1L << 40, Long.MAX_VALUE}) {
            check.due("alter in " + bad, x.alter(0, bad), false);
        }
        check.due("none is to come", x.count(6), 0);
        check.due("all halves", x.alter(5_000, (1L << 40) - 1), true);
        check.due("data word", x.alter(1, 3L << 33), true);
        check.due("in others alone", x.alter(1, 3L << 4 | 3L << 6), true);
        check.due("two are to come", x.count(6), 2);
        x.block(0, 0, 0);
        check.due("run", x.run(1), 1);
        check.due("one attempt: it was sound", x.result(0, 1), 1);
        check.due("got as it was heard", x.got(5, 1, 0), 6);
        check.due("the block is as it was", x.block(0, 0, -1), 0);
        check.due("one has come", x.count(6), 1);
        check.due("halves one half", x.alter(2, 1L << 39), true);
        check.due("run again", x.run(1), 1);
        check.due("first line failed", x.result(0, 1), 2);
        check.due("words said", x.count(1), 4 + 3 + 4);
        check.due("ERROR is off again", x.told(5, 0), 5 * 2_048);
        many(check);
        answers(check);
        return check;
    }

    private static void many(Check check) {
        TwinLines x = withOut(2);
        for (int i = 0; i < 40; i++) {
            check.due("alter " + i, x.alter(4_000 - 100 * i, 1), true);
        }
        check.due("a 41st", x.alter(50, 1), false);
        check.due("one of the 40 again", x.alter(4_000, 2), true);
        check.due("first of the 40 again", x.alter(100, 2), true);
        check.due("40", x.count(6), 40);
        x.run(1);
        check.due("numbers move", x.alter(96, 4), true);
        check.due("and others do not fit", x.alter(100, 4), false);
        x.run(8);
        x.run(8);
        x.run(8);
        check.due("words said", x.count(1), 100);
        check.due("40 still", x.count(6), 40);
        x.run(1);
        check.due("words said with one attempt more", x.count(1), 100 + 3 + 4);
        check.due("room for one", x.count(6), 39);
        check.due("a 40th", x.alter(0, 1), true);
        check.due("a 41st again", x.alter(1, 1), false);
    }

    /** Answers are altered too, and a relayed terminal hears them so. */
    private static void answers(Check check) {
        TwinLines x = new TwinLines();
        x.terminal(5, 8);
        x.terminal(6, 4);
        x.hold(5, 1, 0, 8);
        x.retries(0);
        x.transfer(2, 5, 1, 6, 2, 1, 0, 0);
        x.close();
        x.alter(3, 3L << 2 | 3L);
        check.due("run", x.run(1), 1);
        check.due("got what was heard", x.got(6, 2, 0), 9);
        x.alter(3, 1);
        x.alter(4 + 3, SYNC);
        check.due("run in vain", x.run(1), 0);
        check.due("got nothing else", x.got(6, 2, 0), 9);
        check.due("ERROR", x.told(6, 0), 6 * 2_048 + 1_024);
        check.due("it did not answer", x.told(6, 6), 1);
        check.due("status of the other one", x.result(0, 4), 5 * 2_048);
        check.due("WHY: the first one's words", x.result(0, 3), 2);
    }

    private static Check heard() {
        Check check = new Check("promise 19");
        TwinLines x = withOut(32);
        for (int k = 0; k < 32; k++) {
            x.block(0, k, 65_535 - k);
        }
        check.due("none yet", x.heard(1, 0), -1);
        x.alter(1, 1);
        x.alter(2, SYNC);
        check.due("run", x.run(1), 1);
        check.due("words", x.count(1), 33 + 34);
        for (int bad : new int[] {Integer.MIN_VALUE, -1, 0, 65, 66, 67, 68, Integer.MAX_VALUE}) {
            check.due("heard(" + bad + ")", x.heard(bad, 0), -1);
        }
        for (int bad : new int[] {Integer.MIN_VALUE, -1, 5, Integer.MAX_VALUE}) {
            check.due("heard what " + bad, x.heard(1, bad), -1);
        }
        int[][] rows = {{64, 65_535 - 2, 0, 0, 32, 60}, {35, 65_535 - 31, 0, 0, 32, 640},
            {34, 5 * 2_048 + 32, 1, 1, 32, 660 + 18}, {33, 65_535, 0, 1, 32, 698}, {1, 5 * 2_048, 1, 1, 5, 678 + 668}};
        for (int[] row : rows) {
            for (int what = 0; what < 5; what++) {
                check.due("heard(" + row[0] + ", " + what + ")", x.heard(row[0], what), row[what + 1]);
            }
        }
        notSound(check);
        return check;
    }

    private static void notSound(Check check) {
        TwinLines x = withOut(2);
        x.block(0, 0, 7);
        x.alter(1, 1);
        x.alter(2, SYNC);
        x.run(1);
        check.due("words", x.count(1), 3 + 4);
        int[][] rows = {{7, 5 * 2_048 + 34, 1, 0}, {6, -1, -1, 0}, {5, 0, 1, 0}, {4, 5 * 2_048 + 34, 1, 1}};
        for (int[] row : rows) {
            for (int what = 0; what < 3; what++) {
                check.due("heard(" + row[0] + ", " + what + ")", x.heard(row[0], what), row[what + 1]);
            }
        }
        check.due("more than were said", x.heard(8, 0), -1);
    }

    private static Check halves() {
        Check check = new Check("promise 20");
        TwinLines x = new TwinLines();
        check.due("command 0", x.halves(true, 0), Long.parseLong("111000" + "01".repeat(16) + "10", 2));
        check.due("data 1", x.halves(false, 1), Long.parseLong("000111" + "01".repeat(15) + "10" + "01", 2));
        check.due("data 32768", x.halves(false, 32_768), Long.parseLong("000111" + "10" + "01".repeat(15) + "01", 2));
        check.due("command 65535", x.halves(true, 65_535), Long.parseLong("111000" + "10".repeat(16) + "10", 2));
        for (int bits : new int[] {Integer.MIN_VALUE, -1, 65_536, Integer.MAX_VALUE}) {
            check.due("halves of " + bits, x.halves(true, bits), -1);
            check.due("halves of data " + bits, x.halves(false, bits), -1);
        }
        return check;
    }

    private static Check word() {
        Check check = new Check("promise 21");
        TwinLines x = new TwinLines();
        for (int bits = 0; bits < 65_536; bits += 7) {
            TwinLines each = new TwinLines();
            check.due("command", each.word(each.halves(true, bits)), 65_536 + bits);
            check.due("data", each.word(each.halves(false, bits)), bits);
        }
        for (int half = 0; half < 40; half++) {
            check.due("one half other", x.word(x.halves(true, 1_234) ^ 1L << half), -1);
        }
        for (int bit = 0; bit < 17; bit++) {
            check.due("an even number of bits", x.word(x.halves(false, 1_234) ^ 3L << 2 * bit), -1);
        }
        check.due("two bits other", x.word(x.halves(false, 1_234) ^ 15L << 8), 1_234 ^ 24);
        check.due("the other sync", x.word(x.halves(false, 1_234) ^ SYNC), 65_536 + 1_234);
        long sound = x.halves(true, 3);
        long[] none = {0, -1, (1L << 40) - 1, 1L << 40, sound | 1L << 40, sound | 1L << 63, Long.MIN_VALUE, Long.MAX_VALUE};
        for (long bad : none) {
            check.due("word(" + bad + ")", x.word(bad), -1);
        }
        return check;
    }
}
