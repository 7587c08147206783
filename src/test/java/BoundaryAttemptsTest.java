/**
 * The document's Terms about THE CONTROLLER: a check for each sentence that names a boundary case of
 * attempts, of why they fail, of transfers, of time and of frames.
 */
public final class BoundaryAttemptsTest {
    private static final long SYNC = 63L << 34;
    private static final int T = Bench.T;
    private static final int FIVE = Bench.FIVE;
    private static final int SIX = Bench.SIX;

    public static void main(String[] args) {
        Check.end(outToAll(), outOfABlock(), inIntoABlock(), between(), betweenToAll(), modeWords(), firstForFirst(),
                whyOfTheFirst(), whyOfTheSecond(), justSoManyWords(), notLookedAt(), nothingInTheBlock(),
                tries(), lastTry(), fourteenOnce(), gapOfOneThatSpeaks(), timeOfEachAttempt(), framesWrap(),
                lateOrNot(), periodChanges(), mostWork());
    }

    private static TwinLines start() {
        TwinLines x = new TwinLines();
        x.terminal(5, 8);
        x.terminal(6, 4);
        x.retries(0);
        return x;
    }

    /** Tells one transfer that is a frame of its own. */
    private static TwinLines with(TwinLines x, int... told) {
        x.transfer(told[0], told[1], told[2], told[3], told[4], told[5], told[6], told[7]);
        x.close();
        return x;
    }

    private static void row(Check check, TwinLines x, int transfer, int... want) {
        for (int what = 0; what < want.length; what++) {
            check.due("result(" + transfer + ", " + what + ")", x.result(transfer, what), want[what]);
        }
    }

    private static Check outToAll() {
        Check check = new Check("'Awaited: a status (to ALL: nothing)'");
        TwinLines x = with(new TwinLines(), 0, 0, 0, 31, 30, 32, 15, 1);
        check.due("to ALL, without any terminal", x.run(1), 1);
        row(check, x, 0, 1, 1, 1, 0, -1, 33 * 20 + 4);
        x = with(new TwinLines(), 0, 0, 0, 30, 30, 32, 15, 1);
        check.due("to one that there is not", x.run(1), 0);
        row(check, x, 0, 2, 4, 0, 1, -1, 4 * (33 * 20 + 14 + 4));
        return check;
    }

    private static Check outOfABlock() {
        Check check = new Check("'so many words of a block'");
        for (int count = 1; count <= 32; count += 31) {
            for (int block = 0; block <= 15; block += 15) {
                TwinLines x = with(start(), 0, 0, 0, 5, 30, count, block, 0);
                for (int k = 0; k < 32; k++) {
                    x.block(block, k, 65_535 - k);
                    x.block(block == 0 ? 1 : 14, k, 9);
                }
                check.due("run", x.run(1), 1);
                check.due("words", x.count(1), count + 2);
                for (int k = 0; k < 32; k++) {
                    check.due("got " + k, x.got(5, 30, k), k < count ? 65_535 - k : 0);
                }
            }
        }
        return check;
    }

    private static Check inIntoABlock() {
        Check check = new Check("'the words come into the block then'");
        for (int count = 1; count <= 32; count += 31) {
            for (int block = 0; block <= 15; block += 15) {
                TwinLines x = with(start(), 1, 5, 30, 0, 0, count, block, 0);
                for (int k = 0; k < 32; k++) {
                    x.hold(5, 30, k, 65_535 - k);
                    x.block(block, k, 9);
                }
                check.due("run", x.run(1), 1);
                for (int k = 0; k < 32; k++) {
                    check.due("word " + k, x.block(block, k, -1), k < count ? 65_535 - k : 9);
                    check.due("of another block", x.block(block == 0 ? 1 : 14, k, -1), 0);
                }
            }
        }
        return check;
    }

    private static Check between() {
        Check check = new Check("'awaited: the latter's status and count words, then the former's status'");
        for (int count = 1; count <= 32; count += 31) {
            TwinLines x = with(start(), 2, 5, 30, 6, 1, count, 0, 0);
            for (int k = 0; k < 32; k++) {
                x.hold(5, 30, k, 100 + k);
            }
            check.due("run", x.run(1), 1);
            row(check, x, 0, 1, 1, 0, 0, SIX, 40 + 8 + 20 * (count + 1) + 4 + 20 + 4);
            for (int k = 0; k < 32; k++) {
                check.due("got " + k, x.got(6, 1, k), k < count ? 100 + k : 0);
                check.due("no block has it: " + k, x.block(0, k, -1), 0);
            }
        }
        return check;
    }

    private static Check betweenToAll() {
        Check check = new Check("'then the former's status (ALL: not)'");
        TwinLines x = with(start(), 2, 5, 30, 31, 1, 32, 0, 0);
        x.hold(5, 30, 31, 7);
        check.due("run", x.run(1), 1);
        row(check, x, 0, 1, 1, 0, 0, FIVE, 40 + 8 + 20 * 33 + 4);
        check.due("got", x.got(6, 1, 31), 7);
        x.listens(5, 0, false);
        x.listens(5, 1, false);
        check.due("without the latter", x.run(1), 0);
        row(check, x, 0, 2, 2, 1, 1, -1, 1_000 + 2 * (40 + 14 + 4));
        return check;
    }

    private static Check modeWords() {
        Check check = new Check("'T but for 17, 20, 21 .. a block's word 0; awaited: a status, and one word with 16, 18, 19'");
        for (int code = 0; code <= 21; code += code == 8 ? 8 : 1) {
            boolean told = code == 17 || code == 20 || code == 21;
            boolean sent = code == 16 || code == 18 || code == 19;
            TwinLines x = with(start(), 3, 0, 0, 5, code, 0, 15, 0);
            x.block(15, 0, 2);
            x.block(15, 1, 3);
            check.due("run " + code, x.run(1), 1);
            check.due("words with " + code, x.count(1), told || sent ? 3 : 2);
            check.due("command " + code, x.heard(told || sent ? 3 : 2, 0), FIVE + (told ? 0 : T) + code);
            check.due("CLOCK with " + code, x.told(5, 2), code == 17 ? 2 : 0);
            check.due("word 0 with " + code, x.block(15, 0, -1), sent ? 0 : 2);
            check.due("word 1 with " + code, x.block(15, 1, -1), 3);
        }
        return check;
    }

    private static Check firstForFirst() {
        Check check = new Check("'the first one that is said is taken for the first awaited'");
        // The command of IN is heard as data, so that the other one GETs it and answers.
        TwinLines x = with(start(), 2, 5, 30, 6, 1, 1, 0, 0);
        x.alter(1, SYNC);
        x.alter(4, SYNC);
        check.due("run", x.run(1), 0);
        row(check, x, 0, 2, 2, 1, 3, SIX, 2 * (40 + 4 + 20 + 14 + 4));
        check.due("got", x.got(6, 1, 0), FIVE + T + 30 * 32 + 1);
        return check;
    }

    /** WHY of an IN of two words: the status is word 1, the words are 2 and 3. */
    private static Check whyOfTheFirst() {
        Check check = new Check("'1 it is not said; its first word 2 .. 3 .. 4 ..; 2 behind that are not just so many'");
        long[][] rows = {{0, 1, 1, -1, 0}, {1, 1, 2, -1, 3}, {1, 1L << 39, 2, -1, 3}, {1, SYNC, 2, -1, 3},
            {1, 3L << 32 | 3, 3, FIVE ^ 32_768, 3}, {1, 3L << 24 | 3, 3, FIVE ^ 2_048, 3},
            {1, 3L << 22 | 3, 4, FIVE + 1_024, 3}, {1, 3L << 8 | 3, 4, FIVE + 8, 3},
            {1, 3L << 20 | 3, 0, FIVE + 512, 3}, {1, 3L << 6 | 3, 0, FIVE + 4, 3}, {1, 3L << 10 | 3, 0, FIVE + 16, 3},
            {1, 3L << 24 | 3L << 22, 3, (FIVE ^ 2_048) + 1_024, 3}, {2, 1, 2, FIVE, 3}, {2, SYNC, 2, FIVE, 3},
            {3, 1, 2, FIVE, 3}, {3, SYNC, 2, FIVE, 3}, {3, 3L << 32 | 3, 0, FIVE, 3}};
        for (long[] row : rows) {
            TwinLines x = with(start(), 1, 5, 30, 0, 0, 2, 7, 0);
            int words = 1 + (int) row[4];
            x.alter((int) row[0], row[1]);
            x.alter(words + (int) row[0], row[1]);
            String name = "word " + row[0] + " altered in " + row[1];
            check.due("run with " + name, x.run(1), row[2] == 0 ? 1 : 0);
            check.due("attempts with " + name, x.result(0, 1), row[2] == 0 ? 1 : 2);
            check.due("WHY with " + name, x.result(0, 3), row[2]);
            check.due("status with " + name, x.result(0, 4), row[3]);
        }
        return check;
    }

    /** WHY of a BETWEEN of one word: the second status is word 4. */
    private static Check whyOfTheSecond() {
        Check check = new Check("'the awaited answers in order'");
        long[][] rows = {{4, 1, 2, -1}, {4, SYNC, 2, -1}, {4, 3L << 24 | 3, 3, SIX ^ 2_048}, {4, 3L << 22 | 3, 4, SIX + 1_024},
            {4, 3L << 8 | 3, 4, SIX + 8}, {4, 3L << 10 | 3, 0, SIX + 16}, {3, 3L << 32 | 3, 0, SIX},
            // ERROR in the first status: its words are heard, and the second answer is said.
            {2, 3L << 22 | 3, 4, SIX}, {2, 3L << 8 | 3, 4, SIX}};
        for (long[] row : rows) {
            TwinLines x = with(start(), 2, 5, 30, 6, 1, 1, 0, 0);
            x.alter((int) row[0], row[1]);
            x.alter(5 + (int) row[0], row[1]);
            String name = "word " + row[0] + " altered in " + row[1];
            check.due("run with " + name, x.run(1), row[2] == 0 ? 1 : 0);
            check.due("WHY with " + name, x.result(0, 3), row[2]);
            check.due("status with " + name, x.result(0, 4), row[3]);
            check.due("answers with " + name, x.told(6, 6), row[2] == 0 ? 1 : 2);
        }
        TwinLines later = with(start(), 2, 5, 30, 6, 1, 1, 0, 0);
        later.alter(4, 1);
        check.due("the second of the second attempt", later.run(1), 1);
        row(check, later, 0, 1, 2, 1, 0, SIX, 2 * (40 + 8 + 40 + 4 + 20 + 4));
        TwinLines mute = with(start(), 2, 5, 30, 6, 1, 1, 0, 0);
        mute.mute(6, 0);
        mute.mute(6, 1);
        check.due("the second is not said", mute.run(1), 0);
        row(check, mute, 0, 2, 2, 1, 1, FIVE, 2 * (40 + 8 + 40 + 14 + 4));
        return check;
    }

    /** A command is heard as another one, on both lines, so that there are more or fewer words. */
    private static Check justSoManyWords() {
        Check check = new Check("'2 behind that are not just so many sound words of sort 0'");
        int three = T + 3 * 32;
        // kind, place or code, count, what it is said as and heard as (without address), words of the answer, WHY
        int[][] rows = {{1, 3, 2, three + 2, three + 1, 2, 2}, {1, 3, 2, three + 2, three + 3, 4, 2},
            {1, 3, 2, three + 2, three, 33, 2}, {1, 3, 32, three, three + 31, 32, 2}, {1, 3, 31, three + 31, three, 33, 2},
            {1, 3, 2, three + 2, T, 1, 2}, {1, 3, 1, three + 1, T + 16, 2, 0}, {1, 3, 2, three + 2, three + 32 + 2, 3, 0},
            {3, 0, 0, T, T + 16, 2, 2}, {3, 0, 0, T, three + 1, 2, 2}, {3, 0, 0, T, T + 1, 1, 0}, {3, 16, 0, T + 16, T, 1, 2},
            {3, 16, 0, T + 16, three + 2, 3, 2}, {3, 16, 0, T + 16, T + 19, 2, 0}, {3, 18, 0, T + 18, T + 2, 1, 2}};
        for (int[] row : rows) {
            TwinLines x = with(start(), row[0], 5, row[1], 5, row[1], row[2], 1, 0);
            long flips = x.halves(true, FIVE + row[3]) ^ x.halves(true, FIVE + row[4]);
            x.alter(0, flips);
            x.alter(1 + row[5], flips);
            x.run(1);
            String name = row[3] + " heard as " + row[4];
            check.due("attempts of " + name, x.result(0, 1), row[6] == 0 ? 1 : 2);
            check.due("words of " + name, x.count(1), (1 + row[5]) * (row[6] == 0 ? 1 : 2));
            check.due("WHY of " + name, x.result(0, 3), row[6]);
            check.due("status of " + name, x.result(0, 4), FIVE);
        }
        return check;
    }

    private static Check notLookedAt() {
        Check check = new Check("'What is said without being awaited is not looked at'");
        // 31 is heard as 5, which answers an OUT to ALL with ERROR.
        TwinLines x = with(start(), 0, 0, 0, 31, 1, 1, 0, 0);
        x.bar(5, false, 1, true);
        x.alter(0, 3L << 32 | 3L << 30 | 3L << 26 | 3);
        check.due("run", x.run(1), 1);
        check.due("it was said", x.heard(1, 0), FIVE + T);
        row(check, x, 0, 1, 1, 0, 0, -1, 40 + 8 + 20 + 4);
        // The word of an OUT is heard as a command to SEND: 6 answers first, then 5, which was RELAYED.
        TwinLines y = with(start(), 0, 0, 0, 6, 1, 1, 0, 0);
        y.block(0, 0, FIVE + T + 32 + 1);
        y.alter(1, SYNC);
        check.due("run with two answers", y.run(1), 1);
        check.due("attempts", y.result(0, 1), 2);
        check.due("answers", y.told(5, 6) + y.told(6, 6), 3);
        return check;
    }

    private static Check nothingInTheBlock() {
        Check check = new Check("'the words come into the block then' (and not if it fails)");
        TwinLines x = with(start(), 1, 5, 30, 0, 0, 2, 7, 0);
        x.hold(5, 30, 0, 50);
        x.hold(5, 30, 1, 51);
        x.block(7, 0, 3);
        x.block(7, 1, 4);
        x.alter(3, 1);
        x.alter(4 + 3, 1);
        check.due("run in vain", x.run(1), 0);
        check.due("word 0", x.block(7, 0, -1), 3);
        check.due("word 1", x.block(7, 1, -1), 4);
        x.alter(3, 1);
        check.due("run on the other line", x.run(1), 1);
        check.due("word 0 then", x.block(7, 0, -1), 50);
        check.due("word 1 then", x.block(7, 1, -1), 51);
        TwinLines y = with(start(), 3, 0, 0, 5, 16, 0, 7, 0);
        y.vector(5, 60);
        y.block(7, 0, 3);
        y.alter(2, 1);
        y.alter(3 + 2, SYNC);
        check.due("MODE in vain", y.run(1), 0);
        check.due("its word", y.block(7, 0, -1), 3);
        return check;
    }

    private static Check tries() {
        Check check = new Check("'tried on its line, RETRIES and one times, then as often on the other one'");
        for (int line = 0; line <= 1; line++) {
            for (int many = 0; many <= 2; many++) {
                TwinLines x = with(new TwinLines(), 3, 0, 0, 5, 0, 0, 0, line);
                x.retries(many);
                check.due("run", x.run(1), 0);
                check.due("attempts with " + many, x.result(0, 1), 2 * many + 2);
                check.due("words with " + many, x.count(1), 2 * many + 2);
                for (int back = 1; back <= 2 * many + 2; back++) {
                    check.due("line " + back + " back", x.heard(back, 2), back <= many + 1 ? 1 - line : line);
                }
            }
        }
        return check;
    }

    private static Check lastTry() {
        Check check = new Check("'until an attempt does not fail: it is DONE; else it has FAILED'");
        for (int many = 0; many <= 2; many++) {
            int most = 2 * many + 2;
            for (int mute = 0; mute <= most; mute++) {
                TwinLines x = with(start(), 3, 0, 0, 5, 0, 0, 0, 0);
                x.retries(many);
                for (int i = 0; i < mute; i++) {
                    x.mute(5, i);
                }
                boolean done = mute < most;
                int attempts = Math.min(mute + 1, most);
                check.due("run", x.run(1), done ? 1 : 0);
                row(check, x, 0, done ? 1 : 2, attempts, attempts > many + 1 ? 1 : 0, done ? 0 : 1, done ? FIVE : -1,
                        mute * 38 + (done ? 52 : 0));
            }
        }
        return check;
    }

    private static Check fourteenOnce() {
        Check check = new Check("'14 (once) in an attempt in which an awaited answer was not said'");
        TwinLines none = with(start(), 2, 7, 1, 8, 1, 1, 0, 0);
        none.run(1);
        check.due("none of two", none.count(0), 2 * (40 + 14 + 4));
        TwinLines one = with(start(), 2, 5, 1, 8, 1, 1, 0, 0);
        one.run(1);
        check.due("one of two", one.count(0), 2 * (40 + 8 + 40 + 14 + 4));
        TwinLines both = with(start(), 2, 5, 1, 6, 1, 1, 0, 0);
        both.run(1);
        check.due("both", both.count(0), 40 + 8 + 40 + 4 + 20 + 4);
        TwinLines wrong = with(start(), 3, 0, 0, 5, 0, 0, 0, 0);
        wrong.alter(1, 1);
        wrong.run(1);
        check.due("said, but not sound", wrong.result(0, 5), 2 * (20 + 8 + 20 + 4));
        return check;
    }

    private static Check gapOfOneThatSpeaks() {
        Check check = new Check("'a terminal's GAP before its answer'");
        for (int gap = 4; gap <= 12; gap++) {
            TwinLines x = new TwinLines();
            x.terminal(30, gap);
            with(x, 3, 0, 0, 30, 0, 0, 0, 0);
            with(x, 3, 0, 0, 31, 1, 0, 0, 0);
            x.period(0);
            x.run(1);
            check.due("time with GAP " + gap, x.count(0), 20 + gap + 20 + 4);
            check.due("its answer with GAP " + gap, x.heard(1, 4), 20 + gap);
            x.run(1);
            check.due("none where it does not answer", x.count(0), 44 + gap + 24);
        }
        return check;
    }

    private static Check timeOfEachAttempt() {
        Check check = new Check("'20 for each word said', '4 behind each attempt'");
        TwinLines x = with(start(), 0, 0, 0, 5, 1, 32, 0, 0);
        x.run(1);
        check.due("33 words, GAP, status", x.count(0), 33 * 20 + 8 + 20 + 4);
        check.due("the same in the result", x.result(0, 5), 33 * 20 + 8 + 20 + 4);
        for (int i = 1; i <= 34; i++) {
            check.due("word " + i + " began", x.heard(35 - i, 4), 20 * (i - 1) + (i == 34 ? 8 : 0));
        }
        return check;
    }

    private static Check framesWrap() {
        Check check = new Check("'run in their order, 0 again behind the last one'");
        for (int frames = 1; frames <= 8; frames++) {
            TwinLines x = start();
            for (int i = 0; i < frames; i++) {
                with(x, 3, 0, 0, 5, 0, 0, 0, i % 2);
            }
            for (int i = 0; i < 2 * frames + 1; i++) {
                check.due("next of " + frames, x.count(7), i % frames);
                x.run(1);
                check.due("line of frame " + i % frames, x.heard(1, 2), i % frames % 2);
                check.due("it was run just now", x.result(i % frames, 5), x.count(0));
            }
            check.due("8 at once", x.run(8), 8);
            check.due("next behind 8", x.count(7), (2 * frames + 9) % frames);
        }
        TwinLines x = with(start(), 3, 0, 0, 5, 0, 0, 0, 0);
        x.run(1);
        with(x, 3, 0, 0, 6, 0, 0, 0, 0);
        check.due("behind the last one it was 0 already", x.count(7), 0);
        x.run(1);
        check.due("then the new one", x.count(7), 1);
        return check;
    }

    private static Check lateOrNot() {
        Check check = new Check("'at once when more have (it is LATE then, but not when just as many have)'");
        // A frame with a MODE to 5 takes 52.
        for (int period = 50; period <= 54; period++) {
            TwinLines x = with(start(), 3, 0, 0, 5, 0, 0, 0, 0);
            x.period(period);
            x.run(3);
            check.due("LATE with PERIOD " + period, x.count(3), period < 52 ? 2 : 0);
            check.due("time with PERIOD " + period, x.count(0), Math.max(period, 52) * 2 + 52);
        }
        TwinLines x = with(start(), 3, 0, 0, 5, 0, 0, 0, 0);
        x.period(0);
        x.run(1);
        check.due("the first one is never LATE", x.count(3), 0);
        x.run(1);
        check.due("each other one with PERIOD 0 is", x.count(3), 1);
        TwinLines most = with(start(), 3, 0, 0, 5, 0, 0, 0, 0);
        most.period(100_000);
        most.run(8);
        check.due("the longest PERIOD", most.count(0), 700_052);
        check.due("none is LATE", most.count(3), 0);
        return check;
    }

    private static Check periodChanges() {
        Check check = new Check("'PERIOD times the number of frames run before have passed since the beginning'");
        TwinLines x = with(start(), 3, 0, 0, 5, 0, 0, 0, 0);
        x.run(2);
        check.due("1 times 1000", x.count(0), 1_052);
        x.period(526);
        x.run(1);
        check.due("2 times 526 is just now", x.count(3), 0);
        check.due("time", x.count(0), 1_104);
        x.period(367);
        x.run(1);
        check.due("3 times 367 has passed", x.count(3), 1);
        check.due("at once", x.count(0), 1_156);
        x.period(300);
        x.run(1);
        check.due("4 times 300 is to come", x.count(0), 1_252);
        check.due("so it is not LATE", x.count(3), 1);
        return check;
    }

    /** 512 calls, nearly all of them the dearest one: 24 BETWEEN of 32 words that fail at their end. */
    private static Check mostWork() {
        Check check = new Check("'An object is used for at most 512 calls'");
        TwinLines x = new TwinLines();
        x.terminal(5, 12);
        x.terminal(6, 12);
        x.note(6, 8, true);
        x.retries(2);
        for (int i = 0; i < 24; i++) {
            x.transfer(2, 5, 1, 6, 1, 32, 0, 0);
        }
        x.close();
        int runs = 512 - 29 - 10;
        for (int i = 0; i < runs; i++) {
            check.due("run " + i, x.run(8), 0);
        }
        int attempts = runs * 8 * 24 * 6;
        check.due("time", x.count(0), attempts * (36 * 20 + 24 + 4));
        check.due("words", x.count(1), attempts * 36);
        check.due("frames", x.count(2), runs * 8);
        check.due("LATE", x.count(3), runs * 8 - 1);
        check.due("taken", x.told(6, 5), attempts);
        check.due("answers", x.told(6, 6), attempts);
        check.due("when the last word began", x.heard(1, 4), x.count(0) - 24);
        check.due("alter so far ahead", x.alter(5_000, 1), true);
        return check;
    }
}
