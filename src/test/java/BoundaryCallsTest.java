/**
 * The document's promises, one check for each sentence of theirs that names a boundary case: the least
 * and the greatest number that is taken, the first one beyond, what is empty, what is full, what comes
 * round again. That a refused call changes nothing is looked at in RefusedCallsTest.
 */
public final class BoundaryCallsTest {
    private static final int T = Bench.T;
    private static final int FIVE = Bench.FIVE;

    public static void main(String[] args) {
        Check.end(newObject(), gaps(), terminalIsThere(), allTerminals(), linesOfListens(), wordsHeld(), wordsGot(),
                notes(), vectors(), bars(), blocks(), blockStays(), transferRanges(), betweenAnother(), modeCodes(),
                whatAKindHasNot(), transfersFull(), closeNone(), framesFull(), retries(), periods(), runMany(),
                runWithoutFrames(), runCounts(), alterAhead(), alterHalves(), alterAgain(), alterFull(), muteAhead(),
                muteFull(), muteTold(), resultBefore(), resultOfLastRun(), resultStatus(), toldOfATerminal(), heardBack(),
                heardFewer(), heardNotSound(), halves(), words(), counts(), nextFrame());
    }

    private static TwinLines withFive() {
        TwinLines x = new TwinLines();
        x.terminal(5, 8);
        x.retries(0);
        return x;
    }

    /** MODE 0 to 5 on line 0, a frame of its own. */
    private static TwinLines withMode(TwinLines x) {
        x.transfer(3, 0, 0, 5, 0, 0, 0, 0);
        x.close();
        return x;
    }

    private static int tell(TwinLines x, int... t) {
        return x.transfer(t[0], t[1], t[2], t[3], t[4], t[5], t[6], t[7]);
    }

    private static Check newObject() {
        Check check = new Check("1 'No terminals, no transfers, time 0; RETRIES 1, PERIOD 1,000'");
        TwinLines x = new TwinLines();
        for (int address = 0; address <= 30; address++) {
            check.due("terminal " + address, x.told(address, 0), -1);
        }
        for (int transfer = 0; transfer < 24; transfer++) {
            check.due("transfer " + transfer, x.result(transfer, 0), -1);
        }
        for (int what = 0; what <= 7; what++) {
            check.due("count(" + what + ")", x.count(what), 0);
        }
        check.due("a frame", x.run(1), -1);
        withMode(x);
        x.run(2);
        check.due("two attempts on each line", x.result(0, 1), 4);
        check.due("PERIOD", x.result(0, 5), 1_000 + 4 * 38);
        return check;
    }

    private static Check gaps() {
        Check check = new Check("2 'with a GAP (4 .. 12)'");
        for (int gap = 0; gap <= 16; gap++) {
            TwinLines x = new TwinLines();
            boolean taken = gap >= 4 && gap <= 12;
            check.due("GAP " + gap, x.terminal(5, gap), taken ? 1 : -1);
            withMode(x).run(1);
            check.due("time with GAP " + gap, x.count(0), taken ? 44 + gap : 4 * 38);
        }
        return check;
    }

    private static Check terminalIsThere() {
        Check check = new Check("2 'BAD: also if it is there'");
        TwinLines x = new TwinLines();
        check.due("first", x.terminal(5, 4), 1);
        check.due("again", x.terminal(5, 4), -1);
        check.due("again with another GAP", x.terminal(5, 12), -1);
        check.due("another one", x.terminal(6, 12), 2);
        withMode(x).run(1);
        check.due("the GAP is the first one", x.count(0), 20 + 4 + 20 + 4);
        return check;
    }

    private static Check allTerminals() {
        Check check = new Check("2 'how many there are', of 0 .. 30");
        TwinLines x = new TwinLines();
        check.due("- 1", x.terminal(-1, 4), -1);
        for (int i = 0; i <= 30; i++) {
            int address = i * 7 % 31;
            check.due("terminal " + address, x.terminal(address, 4), i + 1);
        }
        check.due("31", x.terminal(31, 4), -1);
        check.due("32", x.terminal(32, 4), -1);
        return check;
    }

    private static Check linesOfListens() {
        Check check = new Check("3 'whether it did (1, 0)'");
        TwinLines x = withFive();
        for (int line = 0; line <= 1; line++) {
            boolean[] told = {true, false, false, true, true};
            int was = 1;
            for (boolean on : told) {
                check.due("listens on " + line, x.listens(5, line, on), was);
                was = on ? 1 : 0;
            }
        }
        check.due("line - 1", x.listens(5, -1, true), -1);
        check.due("line 2", x.listens(5, 2, true), -1);
        check.due("another terminal", x.listens(4, 0, true), -1);
        return check;
    }

    private static Check wordsHeld() {
        Check check = new Check("4 'Word k (0 .. 31) that it holds at a place (1 .. 30)'");
        TwinLines x = withFive();
        int[] places = {0, 1, 2, 29, 30, 31};
        int[] indices = {-1, 0, 1, 30, 31, 32};
        for (int place : places) {
            for (int k : indices) {
                boolean there = place >= 1 && place <= 30 && k >= 0 && k <= 31;
                check.due("first word " + k + " at " + place, x.hold(5, place, k, 100 * place + k), there ? 0 : -1);
            }
        }
        for (int place : places) {
            for (int k : indices) {
                boolean there = place >= 1 && place <= 30 && k >= 0 && k <= 31;
                check.due("word " + k + " at " + place, x.hold(5, place, k, 65_535), there ? 100 * place + k : -1);
                check.due("the greatest word", x.hold(5, place, k, 0), there ? 65_535 : -1);
            }
        }
        check.due("word - 1", x.hold(5, 1, 0, -1), -1);
        check.due("word 65536", x.hold(5, 1, 0, 65_536), -1);
        check.due("the least word", x.hold(5, 1, 0, 0), 0);
        return check;
    }

    private static Check wordsGot() {
        Check check = new Check("5 'Word k that it GOT at a place'");
        TwinLines x = withFive();
        for (int k = 0; k < 32; k++) {
            x.block(2, k, 65_535 - k);
        }
        tell(x, 0, 0, 0, 5, 1, 32, 2, 0);
        tell(x, 0, 0, 0, 5, 30, 32, 2, 0);
        x.close();
        x.run(1);
        for (int place = 0; place <= 31; place++) {
            for (int k : new int[] {-1, 0, 1, 30, 31, 32}) {
                boolean there = place >= 1 && place <= 30 && k >= 0 && k <= 31;
                boolean got = place == 1 || place == 30;
                check.due("got " + k + " at " + place, x.got(5, place, k), there ? got ? 65_535 - k : 0 : -1);
            }
        }
        return check;
    }

    private static Check notes() {
        Check check = new Check("6 'One of its notes (256, 8, 4, 1)'");
        TwinLines x = withFive();
        for (int which = 0; which <= 64; which++) {
            boolean note = which == 8 || which == 4 || which == 1;
            check.due("note " + which, x.note(5, which, true), note ? 0 : -1);
        }
        for (int bit = 6; bit < 32; bit++) {
            check.due("bit " + bit, x.note(5, 1 << bit, true), bit == 8 ? 0 : -1);
        }
        check.due("two of them", x.note(5, 256 + 8, true), -1);
        check.due("status", x.told(5, 0), FIVE + 256 + 8 + 4 + 1);
        check.due("off: it was on", x.note(5, 256, false), 1);
        check.due("off: it was off", x.note(5, 256, false), 0);
        check.due("status then", x.told(5, 0), FIVE + 8 + 4 + 1);
        return check;
    }

    private static Check vectors() {
        Check check = new Check("7 'Its VECTOR: what it was'");
        TwinLines x = withFive();
        check.due("0 at first", x.vector(5, 65_535), 0);
        check.due("65536", x.vector(5, 65_536), -1);
        check.due("- 1", x.vector(5, -1), -1);
        check.due("the greatest", x.vector(5, 0), 65_535);
        check.due("the least", x.vector(5, 1), 0);
        return check;
    }

    private static Check bars() {
        Check check = new Check("8 'A place (1 .. 30) is BARRED for a T, or not: whether it was (1, 0)'");
        TwinLines x = withFive();
        for (int place = -1; place <= 33; place++) {
            boolean there = place >= 1 && place <= 30;
            check.due("with T at " + place, x.bar(5, true, place, true), there ? 0 : -1);
            check.due("without T at " + place, x.bar(5, false, place, place % 2 == 0), there ? 0 : -1);
        }
        for (int place = 1; place <= 30; place++) {
            check.due("with T at " + place + " then", x.bar(5, true, place, false), 1);
            check.due("without T at " + place + " then", x.bar(5, false, place, false), place % 2 == 0 ? 1 : 0);
            check.due("with T at " + place + " last", x.bar(5, true, place, false), 0);
        }
        return check;
    }

    private static Check blocks() {
        Check check = new Check("9 'BLOCKS 0 .. 15 of 32 words'");
        TwinLines x = new TwinLines();
        int[] rows = {-1, 0, 1, 14, 15, 16};
        int[] indices = {-1, 0, 1, 30, 31, 32};
        for (int block : rows) {
            for (int k : indices) {
                boolean there = block >= 0 && block <= 15 && k >= 0 && k <= 31;
                check.due("first " + block + " " + k, x.block(block, k, 100 * block + k + 1), there ? 0 : -1);
            }
        }
        for (int block : rows) {
            for (int k : indices) {
                boolean there = block >= 0 && block <= 15 && k >= 0 && k <= 31;
                check.due("then " + block + " " + k, x.block(block, k, 65_535), there ? 100 * block + k + 1 : -1);
                check.due("last " + block + " " + k, x.block(block, k, 0), there ? 65_535 : -1);
            }
        }
        return check;
    }

    private static Check blockStays() {
        Check check = new Check("9 'with word - 1 it stays'");
        TwinLines x = new TwinLines();
        x.block(3, 4, 55);
        check.due("- 1", x.block(3, 4, -1), 55);
        check.due("- 2 is none", x.block(3, 4, -2), -1);
        check.due("65536 is none", x.block(3, 4, 65_536), -1);
        check.due("- 1 again", x.block(3, 4, -1), 55);
        check.due("0 is one", x.block(3, 4, 0), 55);
        check.due("- 1 then", x.block(3, 4, -1), 0);
        return check;
    }

    /** Of each number that a kind has the least and the greatest one, and those just beyond. */
    private static Check transferRanges() {
        Check check = new Check("10 'OUT: to (0 .. 31), its place, count (1 .. 32), block, line. IN: from (0 .. 30), ..'");
        int[][] usual = {{0, 0, 0, 5, 9, 9, 9, 0}, {1, 5, 9, 0, 0, 9, 9, 0}, {2, 5, 9, 6, 9, 9, 9, 0}, {3, 0, 0, 5, 1, 9, 9, 0}};
        // kind, which number, the least, the greatest
        int[][] ranges = {{0, 3, 0, 31}, {0, 4, 1, 30}, {0, 5, 1, 32}, {0, 6, 0, 15}, {0, 7, 0, 1},
            {1, 1, 0, 30}, {1, 2, 1, 30}, {1, 5, 1, 32}, {1, 6, 0, 15}, {1, 7, 0, 1},
            {2, 1, 0, 30}, {2, 2, 1, 30}, {2, 3, 0, 31}, {2, 4, 1, 30}, {2, 5, 1, 32}, {2, 7, 0, 1},
            {3, 3, 0, 31}, {3, 6, 0, 15}, {3, 7, 0, 1}};
        for (int[] range : ranges) {
            TwinLines x = new TwinLines();
            int number = 0;
            for (int no : new int[] {range[2] - 1, range[2], range[3], range[3] + 1}) {
                int[] t = usual[range[0]].clone();
                t[range[1]] = no;
                boolean taken = no >= range[2] && no <= range[3];
                check.due("kind " + range[0] + ", number " + range[1] + " " + no, tell(x, t), taken ? number++ : -1);
            }
        }
        TwinLines x = new TwinLines();
        check.due("kind - 1", tell(x, -1, 5, 9, 6, 9, 9, 9, 0), -1);
        check.due("kind 4", tell(x, 4, 5, 9, 6, 9, 9, 9, 0), -1);
        for (int kind = 0; kind <= 3; kind++) {
            check.due("kind " + kind, tell(x, usual[kind]), kind);
        }
        return check;
    }

    private static Check betweenAnother() {
        Check check = new Check("10 'BETWEEN: from, to (another one, or 31)'");
        for (int from = 0; from <= 30; from++) {
            TwinLines x = new TwinLines();
            check.due("itself " + from, tell(x, 2, from, 1, from, 2, 1, 0, 0), -1);
            check.due("the next one to " + from, tell(x, 2, from, 1, (from + 1) % 31, 1, 1, 0, 0), 0);
            check.due("ALL", tell(x, 2, from, 1, 31, 1, 1, 0, 0), 1);
        }
        check.due("31 to 31", tell(new TwinLines(), 2, 31, 1, 31, 1, 1, 0, 0), -1);
        check.due("31 to 5", tell(new TwinLines(), 2, 31, 1, 5, 1, 1, 0, 0), -1);
        return check;
    }

    private static Check modeCodes() {
        Check check = new Check("10 'the code: 0 .. 8, 16 .. 21 (to 31: 1, 3 .. 8, 17, 20, 21)'");
        for (int code = -33; code <= 66; code++) {
            boolean one = code >= 0 && code <= 8 || code >= 16 && code <= 21;
            boolean all = one && code != 0 && code != 2 && code != 16 && code != 18 && code != 19;
            check.due("code " + code, tell(new TwinLines(), 3, 0, 0, 30, code, 0, 0, 0), one ? 0 : -1);
            check.due("code to 31 " + code, tell(new TwinLines(), 3, 0, 0, 31, code, 0, 0, 0), all ? 0 : -1);
        }
        return check;
    }

    private static Check whatAKindHasNot() {
        Check check = new Check("10 'What a kind does not have may be anything' and '(the block is any)'");
        for (int any : new int[] {Integer.MIN_VALUE, -1, 0, 31, 32, 99, Integer.MAX_VALUE}) {
            TwinLines x = withFive();
            x.terminal(6, 4);
            x.hold(5, 1, 0, 7);
            x.block(1, 0, 8);
            check.due("OUT with " + any, tell(x, 0, any, any, 5, 3, 1, 1, 0), 0);
            check.due("IN with " + any, tell(x, 1, 5, 1, any, any, 1, 2, 0), 1);
            check.due("BETWEEN with " + any, tell(x, 2, 5, 1, 6, 2, 1, any, 0), 2);
            check.due("MODE with " + any, tell(x, 3, any, any, 5, 17, any, 1, 0), 3);
            x.close();
            check.due("all are done with " + any, x.run(1), 4);
            check.due("words with " + any, x.count(1), 3 + 3 + 5 + 3);
            check.due("OUT's word", x.got(5, 3, 0), 8);
            check.due("IN's word", x.block(2, 0, -1), 7);
            check.due("BETWEEN's word", x.got(6, 2, 0), 7);
            check.due("MODE's word", x.told(5, 2), 8);
            check.due("block 0", x.block(0, 0, -1), 0);
        }
        return check;
    }

    private static Check transfersFull() {
        Check check = new Check("10 'BAD: also if there are 24'");
        TwinLines x = withFive();
        for (int i = 0; i < 24; i++) {
            check.due("transfer " + i, tell(x, 3, 0, 0, 5, 0, 0, 0, 0), i);
            check.due("how many", x.count(4), i + 1);
        }
        check.due("a 25th", tell(x, 3, 0, 0, 5, 0, 0, 0, 0), -1);
        x.close();
        check.due("a 25th behind close", tell(x, 3, 0, 0, 5, 0, 0, 0, 0), -1);
        check.due("24 are run", x.run(1), 24);
        check.due("the last one's result", x.result(23, 0), 1);
        check.due("there is no 25th", x.result(24, 0), -1);
        check.due("a 25th behind run", tell(x, 3, 0, 0, 5, 0, 0, 0, 0), -1);
        return check;
    }

    private static Check closeNone() {
        Check check = new Check("11 'BAD: there are none'");
        TwinLines x = withFive();
        check.due("none at all", x.close(), -1);
        tell(x, 3, 0, 0, 99, 0, 0, 0, 0);
        check.due("a refused one is none", x.close(), -1);
        tell(x, 3, 0, 0, 5, 0, 0, 0, 0);
        check.due("one", x.close(), 0);
        check.due("none since", x.close(), -1);
        x.run(1);
        check.due("none since, behind run", x.close(), -1);
        check.due("frames", x.count(5), 1);
        tell(x, 3, 0, 0, 5, 0, 0, 0, 0);
        tell(x, 3, 0, 0, 5, 0, 0, 0, 0);
        check.due("two since", x.close(), 1);
        x.run(1);
        check.due("the second frame has both", x.run(1), 2);
        return check;
    }

    private static Check framesFull() {
        Check check = new Check("11 'or 8 frames'");
        TwinLines x = withFive();
        for (int i = 0; i < 8; i++) {
            tell(x, 3, 0, 0, 5, 0, 0, 0, 0);
            check.due("frame " + i, x.close(), i);
        }
        check.due("a ninth of none", x.close(), -1);
        tell(x, 3, 0, 0, 5, 0, 0, 0, 0);
        check.due("a ninth of one", x.close(), -1);
        check.due("frames", x.count(5), 8);
        check.due("all 8 are run", x.run(8), 8);
        check.due("the last frame", x.result(7, 0), 1);
        check.due("what is in none is not run", x.result(8, 0), 0);
        check.due("0 again", x.count(7), 0);
        return check;
    }

    private static Check retries() {
        Check check = new Check("12 'RETRIES (0 .. 2). False: none such'");
        for (int many = -2; many <= 4; many++) {
            TwinLines x = new TwinLines();
            boolean taken = many >= 0 && many <= 2;
            check.due("retries(" + many + ")", x.retries(many), taken);
            withMode(x).run(1);
            check.due("attempts with " + many, x.result(0, 1), taken ? 2 * many + 2 : 4);
        }
        return check;
    }

    private static Check periods() {
        Check check = new Check("13 'PERIOD (0 .. 100,000). False: none such'");
        for (int time : new int[] {-1, 0, 1, 99_999, 100_000, 100_001}) {
            TwinLines x = withMode(withFive());
            boolean taken = time >= 0 && time <= 100_000;
            check.due("period(" + time + ")", x.period(time), taken);
            x.run(2);
            check.due("time with " + time, x.count(0), 52 + (taken ? Math.max(time, 52) : 1_000));
        }
        return check;
    }

    private static Check runMany() {
        Check check = new Check("14 'So many frames (1 .. 8) are run'");
        for (int many = -1; many <= 10; many++) {
            TwinLines x = withMode(withFive());
            boolean taken = many >= 1 && many <= 8;
            check.due("run(" + many + ")", x.run(many), taken ? many : -1);
            check.due("frames run by run(" + many + ")", x.count(2), taken ? many : 0);
            check.due("words said by run(" + many + ")", x.count(1), taken ? 2 * many : 0);
        }
        return check;
    }

    private static Check runWithoutFrames() {
        Check check = new Check("14 'BAD: also if there are no frames'");
        TwinLines x = withFive();
        check.due("no transfers", x.run(1), -1);
        tell(x, 3, 0, 0, 5, 0, 0, 0, 0);
        check.due("a transfer, but no frame", x.run(1), -1);
        check.due("nothing was said", x.count(1), 0);
        check.due("no frame was run", x.count(2), 0);
        x.close();
        check.due("a frame", x.run(1), 1);
        return check;
    }

    private static Check runCounts() {
        Check check = new Check("14 'how many transfers were DONE in them'");
        TwinLines x = withFive();
        tell(x, 3, 0, 0, 7, 0, 0, 0, 0);
        x.close();
        for (int i = 0; i < 23; i++) {
            tell(x, 3, 0, 0, 5, 0, 0, 0, 0);
        }
        x.close();
        check.due("none", x.run(1), 0);
        check.due("all", x.run(1), 23);
        check.due("in 8 frames", x.run(8), 4 * 23);
        x.mute(5, 0);
        x.mute(5, 1);
        check.due("all but one", x.run(2), 22);
        return check;
    }

    private static Check alterAhead() {
        Check check = new Check("15 'The word with a number so much (0 .. 5,000) above how many were said'");
        for (int ahead : new int[] {-1, 0, 1, 4_999, 5_000, 5_001}) {
            boolean taken = ahead >= 0 && ahead <= 5_000;
            TwinLines x = withFive();
            // Words of OUT to ALL: 100 frames of 51 words; before them one of them was run.
            tell(x, 0, 0, 0, 31, 1, 32, 0, 0);
            tell(x, 0, 0, 0, 31, 1, 17, 0, 0);
            x.close();
            x.run(1);
            check.due("alter(" + ahead + ")", x.alter(ahead, 1), taken);
            check.due("to come", x.count(6), taken ? 1 : 0);
            int frame = Math.max(ahead, 0) / 51;
            for (int i = 0; i < frame; i++) {
                x.run(1);
            }
            check.due("still to come", x.count(6), taken ? 1 : 0);
            x.run(1);
            check.due("no more to come", x.count(6), 0);
            for (int k = 0; k < 51; k++) {
                boolean altered = taken && k == ahead % 51;
                check.due("word " + k + " with " + ahead, x.heard(51 - k, 0) == -1, altered);
            }
        }
        return check;
    }

    private static Check alterHalves() {
        Check check = new Check("15 'will be ALTERED in these halves (1 .. 2^40 - 1)'");
        TwinLines x = withMode(withFive());
        check.due("0", x.alter(0, 0), false);
        check.due("- 1", x.alter(0, -1), false);
        check.due("2^40", x.alter(0, 1L << 40), false);
        check.due("2^40 + 1", x.alter(0, (1L << 40) + 1), false);
        check.due("2^63 - 1", x.alter(0, Long.MAX_VALUE), false);
        check.due("- 2^63", x.alter(0, Long.MIN_VALUE), false);
        check.due("none is to come", x.count(6), 0);
        x.run(1);
        check.due("as it was said", x.result(0, 1), 1);
        check.due("1", x.alter(0, 1), true);
        x.run(1);
        check.due("the last half is heard the other way round", x.heard(3, 0), -1);
        check.due("2^39", x.alter(0, 1L << 39), true);
        x.run(1);
        check.due("the first half is heard the other way round", x.heard(3, 0), -1);
        // All halves the other way round: the other sort, all bits other, and the parity (17 bits) is wrong.
        check.due("2^40 - 1", x.alter(0, (1L << 40) - 1), true);
        x.run(1);
        check.due("all halves", x.heard(3, 0), -1);
        check.due("2^40 - 1 - 3", x.alter(0, (1L << 40) - 4), true);
        x.run(1);
        check.due("all but the parity", x.heard(3, 0), 65_535 - FIVE - T);
        check.due("its sort", x.heard(3, 1), 0);
        return check;
    }

    private static Check alterAgain() {
        Check check = new Check("15 'told again, in these alone'");
        TwinLines x = withMode(withFive());
        check.due("all that makes it unsound", x.alter(0, 1), true);
        check.due("again", x.alter(0, 3L << 2 | 3), true);
        check.due("one is to come", x.count(6), 1);
        x.run(1);
        check.due("heard in these alone", x.heard(x.count(1), 0), FIVE + T + 1);
        check.due("the same twice", x.alter(0, 3), true);
        check.due("the same twice again", x.alter(0, 3), true);
        x.run(1);
        check.due("they do not undo one another", x.result(0, 1), 2);
        return check;
    }

    private static Check alterFull() {
        Check check = new Check("15 'or 40 words other than that one are to come'");
        TwinLines x = withMode(withFive());
        for (int i = 0; i < 40; i++) {
            check.due("word " + i, x.alter(2 * i, 1), true);
            check.due("to come", x.count(6), i + 1);
        }
        check.due("a 41st between them", x.alter(1, 1), false);
        check.due("a 41st behind them", x.alter(5_000, 1), false);
        for (int i = 0; i < 40; i++) {
            check.due("that one again " + i, x.alter(2 * i, 3L << 2 | 3), true);
        }
        check.due("40 are to come", x.count(6), 40);
        x.run(1);
        check.due("the first one came", x.count(6), 39);
        check.due("a 40th", x.alter(5_000, 1), true);
        check.due("a 41st then", x.alter(4_999, 1), false);
        check.due("the 40th again", x.alter(5_000, 2), true);
        return check;
    }

    private static Check muteAhead() {
        Check check = new Check("16 'Of the commands that a terminal takes from now on .. the first of them 0 (0 .. 500)'");
        for (int ahead : new int[] {-1, 0, 1, 499, 500, 501}) {
            boolean taken = ahead >= 0 && ahead <= 500;
            TwinLines x = withFive();
            for (int i = 0; i < 10; i++) {
                tell(x, 3, 0, 0, 5, 0, 0, 0, 0);
            }
            x.close();
            x.run(1);
            check.due("mute(" + ahead + ")", x.mute(5, ahead), taken);
            for (int i = 0; i < 50; i++) {
                x.run(1);
            }
            check.due("before 500", x.told(5, 5) - x.told(5, 6), taken && ahead < 500 ? 1 : 0);
            x.run(1);
            check.due("the first one of the next ten", x.result(0, 1), taken && ahead >= 500 ? 2 : 1);
            check.due("behind 500", x.told(5, 5) - x.told(5, 6), taken ? 1 : 0);
        }
        return check;
    }

    private static Check muteFull() {
        Check check = new Check("16 'or 20 of that terminal are to come'");
        TwinLines x = withMode(withFive());
        x.terminal(6, 4);
        for (int i = 0; i < 20; i++) {
            check.due("mute " + i, x.mute(5, 2 * i), true);
        }
        check.due("a 21st", x.mute(5, 1), false);
        check.due("a 21st behind them", x.mute(5, 500), false);
        for (int i = 0; i < 20; i++) {
            check.due("of another terminal " + i, x.mute(6, i), true);
        }
        check.due("a 21st of that", x.mute(6, 20), false);
        check.due("command 0 is MUTE, 1 is not", x.run(1), 1);
        check.due("there is room for one", x.mute(5, 500), true);
        check.due("and for no more", x.mute(5, 499), false);
        check.due("the other one took none", x.mute(6, 20), false);
        return check;
    }

    private static Check muteTold() {
        Check check = new Check("16 'or that one is told'");
        TwinLines x = withMode(withFive());
        check.due("1", x.mute(5, 1), true);
        check.due("1 again", x.mute(5, 1), false);
        check.due("500", x.mute(5, 500), true);
        check.due("500 again", x.mute(5, 500), false);
        x.run(1);
        check.due("it is 0 now", x.mute(5, 0), false);
        check.due("and 499", x.mute(5, 499), false);
        check.due("500 is another one now", x.mute(5, 500), true);
        x.run(1);
        check.due("it was taken: attempts", x.result(0, 1), 2);
        check.due("0 is free again", x.mute(5, 0), true);
        return check;
    }

    private static Check resultBefore() {
        Check check = new Check("17 'All 0 (4: - 1) before. BAD'");
        TwinLines x = withFive();
        check.due("no transfer", x.result(0, 0), -1);
        for (int i = 0; i < 24; i++) {
            tell(x, 0, 0, 0, 5, 1, 1, 0, 1);
            for (int what = -1; what <= 6; what++) {
                boolean there = what >= 0 && what <= 5;
                check.due("result(" + i + ", " + what + ")", x.result(i, what), there && what != 4 ? 0 : -1);
            }
            check.due("the next one", x.result(i + 1, 0), -1);
        }
        check.due("transfer - 1", x.result(-1, 0), -1);
        return check;
    }

    private static Check resultOfLastRun() {
        Check check = new Check("17 'Of a transfer as it was run last'");
        TwinLines x = withMode(withFive());
        x.retries(2);
        for (int i = 0; i < 6; i++) {
            x.mute(5, i);
        }
        int[][] want = {{2, 6, 1, 1, -1, 6 * 38}, {1, 1, 0, 0, FIVE, 1_052}};
        for (int[] row : want) {
            x.run(1);
            for (int what = 0; what <= 5; what++) {
                check.due("result " + what, x.result(0, what), row[what]);
            }
        }
        return check;
    }

    private static Check resultStatus() {
        Check check = new Check("17 'the last answer awaited that was said, if that was sound and of sort 1, else - 1'");
        // BETWEEN 5 and 6: none said, the first said, both said; the last one said sound, of sort 0, not sound.
        for (int said = 0; said <= 2; said++) {
            for (int flaw = 0; flaw <= 2; flaw++) {
                TwinLines x = withFive();
                x.terminal(6, 4);
                tell(x, 2, 5, 1, 6, 1, 1, 0, 0);
                x.close();
                for (int i = 0; i < 2; i++) {
                    if (said < 1) {
                        x.mute(5, i);
                    }
                    if (said < 2) {
                        x.mute(6, i);
                    }
                    int status = said == 2 ? 4 : 2;
                    int words = said == 0 ? 2 : said == 1 ? 4 : 5;
                    if (said > 0 && flaw > 0) {
                        x.alter(i * words + status, flaw == 1 ? 63L << 34 : 1);
                    }
                }
                x.run(1);
                int due = said == 0 || flaw > 0 ? -1 : said == 1 ? FIVE : Bench.SIX;
                check.due(said + " said, flaw " + flaw, x.result(0, 4), due);
            }
        }
        return check;
    }

    private static Check toldOfATerminal() {
        Check check = new Check("18 '1 LAST (- 1 before any)', '4 lines on which it is SHUT (1 and 2)', BAD");
        TwinLines x = withFive();
        for (int what = -1; what <= 9; what++) {
            check.due("told(5, " + what + ")", x.told(5, what), what == 0 ? FIVE : what == 1 || what < 0 || what > 7 ? -1 : 0);
        }
        check.due("told(4, 0)", x.told(4, 0), -1);
        check.due("told(31, 0)", x.told(31, 0), -1);
        tell(x, 3, 0, 0, 31, 4, 0, 0, 0);
        x.close();
        tell(x, 3, 0, 0, 31, 4, 0, 0, 1);
        x.close();
        x.run(1);
        check.due("SHUT on 1", x.told(5, 4), 2);
        x.run(1);
        check.due("SHUT on both", x.told(5, 4), 3);
        check.due("LAST", x.told(5, 1), 31 * 2_048 + T + 4);
        check.due("commands", x.told(5, 5), 2);
        check.due("answers", x.told(5, 6), 0);
        return check;
    }

    private static Check heardBack() {
        Check check = new Check("19 'the back-th last one (1 .. 64)'");
        TwinLines x = withFive();
        tell(x, 0, 0, 0, 31, 1, 32, 0, 0);
        tell(x, 0, 0, 0, 31, 1, 32, 1, 1);
        x.close();
        x.period(2_000);
        for (int k = 0; k < 32; k++) {
            x.block(0, k, 100 + k);
            x.block(1, k, 200 + k);
        }
        for (int i = 0; i < 3; i++) {
            x.run(1);
            for (int back : new int[] {1, 2, 32, 33, 34, 63, 64}) {
                int line = back <= 33 ? 1 : 0;
                int k = 32 - (back - 1) % 33;
                int bits = k == 0 ? 31 * 2_048 + 32 : 100 + 100 * line + k - 1;
                int[] want = {bits, k == 0 ? 1 : 0, line, 32, 2_000 * i + line * 664 + 20 * k};
                for (int what = 0; what <= 4; what++) {
                    check.due("heard(" + back + ", " + what + ")", x.heard(back, what), want[what]);
                }
            }
            for (int back : new int[] {-1, 0, 65, 66, 128}) {
                check.due("heard(" + back + ", 0)", x.heard(back, 0), -1);
                check.due("heard(" + back + ", 4)", x.heard(back, 4), -1);
            }
            check.due("heard(1, 5)", x.heard(1, 5), -1);
            check.due("heard(1, - 1)", x.heard(1, -1), -1);
        }
        return check;
    }

    private static Check heardFewer() {
        Check check = new Check("19 'BAD: also if there were fewer'");
        TwinLines x = withMode(new TwinLines());
        x.retries(0);
        check.due("none", x.heard(1, 4), -1);
        for (int said = 2; said <= 66; said += 2) {
            x.run(1);
            check.due("the first of " + said, x.heard(said, 4), said <= 64 ? 0 : -1);
            check.due("one before the first of " + said, x.heard(said + 1, 4), -1);
            check.due("the last of " + said, x.heard(1, 2), 1);
        }
        return check;
    }

    private static Check heardNotSound() {
        Check check = new Check("19 '0 the bits heard, 1 its sort (both - 1 if it is not sound)'");
        TwinLines x = withMode(withFive());
        x.alter(0, 1);
        x.run(1);
        int[] want = {-1, -1, 0, 32, 0};
        for (int what = 0; what <= 4; what++) {
            check.due("heard(3, " + what + ")", x.heard(3, what), want[what]);
        }
        x.alter(0, 63L << 34);
        x.run(1);
        check.due("bits as data", x.heard(3, 0), FIVE + T);
        check.due("sort as data", x.heard(3, 1), 0);
        return check;
    }

    private static Check halves() {
        Check check = new Check("20 '- 1: the bits are none'");
        TwinLines x = new TwinLines();
        for (int sort = 0; sort <= 1; sort++) {
            String sync = sort == 1 ? "111000" : "000111";
            check.due("- 1", x.halves(sort == 1, -1), -1);
            check.due("0: parity 1", x.halves(sort == 1, 0), Long.parseLong(sync + "01".repeat(16) + "10", 2));
            check.due("65535: parity 1", x.halves(sort == 1, 65_535), Long.parseLong(sync + "10".repeat(17), 2));
            check.due("65536", x.halves(sort == 1, 65_536), -1);
            for (int bit = 0; bit < 16; bit++) {
                String bits = "01".repeat(15 - bit) + "10" + "01".repeat(bit);
                check.due("bit " + bit + ": parity 0", x.halves(sort == 1, 1 << bit), Long.parseLong(sync + bits + "01", 2));
            }
        }
        return check;
    }

    private static Check words() {
        Check check = new Check("21 'BAD: they are not sound'");
        for (int bits = 0; bits < 65_536; bits += 255) {
            TwinLines x = new TwinLines();
            long command = x.halves(true, bits);
            long data = x.halves(false, bits);
            check.due("command " + bits, x.word(command), 65_536 + bits);
            check.due("data " + bits, x.word(data), bits);
            for (int half = 0; half < 64; half++) {
                check.due("command " + bits + ", half " + half, x.word(command ^ 1L << half), -1);
                check.due("data " + bits + ", half " + half, x.word(data ^ 1L << half), -1);
            }
            for (int bit = 0; bit < 17; bit++) {
                check.due("parity of " + bits + ", bit " + bit, x.word(command ^ 3L << 2 * bit), -1);
            }
        }
        TwinLines x = new TwinLines();
        for (int sync = 0; sync < 64; sync++) {
            long halves = (long) sync << 34 | x.halves(false, 9) & (1L << 34) - 1;
            check.due("sync " + sync, x.word(halves), sync == 7 ? 9 : sync == 56 ? 65_536 + 9 : -1);
        }
        check.due("0", x.word(0), -1);
        check.due("2^40 - 1", x.word((1L << 40) - 1), -1);
        check.due("2^40", x.word(1L << 40), -1);
        check.due("- 1", x.word(-1), -1);
        return check;
    }

    private static Check counts() {
        Check check = new Check("22 'int count(int what)': 0 .. 7, else BAD");
        TwinLines x = withFive();
        tell(x, 3, 0, 0, 7, 0, 0, 0, 0);
        x.close();
        tell(x, 3, 0, 0, 7, 0, 0, 0, 0);
        x.close();
        tell(x, 3, 0, 0, 7, 0, 0, 0, 0);
        x.period(0);
        x.alter(99, 1);
        x.run(3);
        int[] want = {-1, 6 * 38, 6, 3, 2, 3, 2, 1, 1, -1, -1};
        for (int what = -1; what <= 9; what++) {
            check.due("count(" + what + ")", x.count(what), want[what + 1]);
        }
        return check;
    }

    private static Check nextFrame() {
        Check check = new Check("22 '7 the next frame (0 without any)'");
        TwinLines x = withFive();
        check.due("without any", x.count(7), 0);
        tell(x, 3, 0, 0, 5, 0, 0, 0, 0);
        check.due("without any, with a transfer", x.count(7), 0);
        for (int frames = 1; frames <= 8; frames++) {
            x.close();
            check.due("0 of " + frames, x.count(7), 0);
            for (int i = 0; i < frames; i++) {
                check.due(i + " of " + frames, x.count(7), i);
                x.run(1);
            }
            tell(x, 3, 0, 0, 5, 0, 0, 0, 0);
        }
        return check;
    }
}
