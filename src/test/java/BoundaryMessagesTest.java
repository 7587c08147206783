import java.util.Arrays;

/**
 * The document's Terms, from WORD to AN ANSWER: a check for each sentence that names a boundary case
 * of what terminals hear, take, do and answer. Messages that the controller never says by itself
 * come from altered words.
 */
public final class BoundaryMessagesTest {
    private static final int SORT = Bench.SORT;
    private static final int UNSOUND = Bench.UNSOUND;
    private static final int ALL = Bench.ALL;
    private static final int T = Bench.T;
    private static final int FIVE = Bench.FIVE;
    private static final int SIX = Bench.SIX;

    public static void main(String[] args) {
        Check.end(numbersOfWords(), countZeroIsThirtyTwo(), placesOfModes(), addresses(), atFirst(), hiddenFlaw(),
                takesTheLast(), restOfTwoAndEighteen(), lastBeforeAny(), gets(), getsSoundDataAlone(), relayed(),
                relayedHears(), relayedEnds(), relayedOnce(), sends(), modes(),
                clockToZero(), checkParts(), checkWraps(), eight(), shutByWord(), serviceUnsaid(), barredOrBusy(),
                toAllNobodyAnswers(), shutOrMute(), relayedBehindOthers());
    }

    private static int command(int address, boolean t, int place, int countOrCode) {
        return Bench.command(address, t, place, countOrCode);
    }

    private static boolean hasError(Bench bench, int address) {
        return (bench.lines.told(address, 0) & T) != 0;
    }

    private static Check numbersOfWords() {
        Check check = new Check("'Words that are said (on either) are numbered from 0 on'");
        TwinLines x = new TwinLines();
        x.retries(0);
        x.transfer(3, 0, 0, 5, 0, 0, 0, 0);
        x.close();
        x.alter(0, 1);
        x.alter(3, 1);
        x.run(2);
        int[] sorts = {-1, 1, 1, -1};
        for (int i = 0; i < 4; i++) {
            check.due("sort of word " + i, x.heard(4 - i, 1), sorts[i]);
            check.due("line of word " + i, x.heard(4 - i, 2), i % 2);
        }
        return check;
    }

    private static Check countZeroIsThirtyTwo() {
        Check check = new Check("'a COUNT (5; 0 is 32)'");
        Bench send = new Bench(0, 1);
        send.lines.hold(5, 7, 31, 99);
        check.due("status and 32 words", send.say(command(5, true, 7, 0)), 33);
        check.due("word 31", send.lines.heard(1, 0), 99);
        check.due("31 is 31", send.say(command(5, true, 7, 31)), 32);
        check.due("1 is 1", send.say(command(5, true, 7, 1)), 2);
        Bench get = new Bench(0, 33);
        check.due("its status", get.say(Bench.withData(command(5, false, 7, 0), 32)), 1);
        check.due("got 31", get.lines.got(5, 7, 31), 32);
        Bench less = new Bench(0, 32);
        check.due("31 words are too few", less.say(Bench.withData(command(5, false, 7, 0), 31)), 0);
        Bench none = new Bench(0, 1);
        check.due("0 words are not it", none.say(command(5, false, 7, 0)), 0);
        check.due("ERROR", hasError(none, 5), true);
        TwinLines x = new TwinLines();
        x.terminal(5, 8);
        x.transfer(1, 5, 7, 0, 0, 31, 1, 0);
        x.close();
        x.transfer(1, 5, 7, 0, 0, 32, 1, 0);
        x.close();
        check.due("31 is done", x.run(1), 1);
        check.due("31 is said as 31", x.heard(33, 0), FIVE + T + 7 * 32 + 31);
        check.due("32 is done", x.run(1), 1);
        check.due("32 is said as 0", x.heard(34, 0), FIVE + T + 7 * 32);
        return check;
    }

    private static Check placesOfModes() {
        Check check = new Check("'With place 0 or 31 it is a MODE'");
        for (int place = 0; place <= 31; place++) {
            Bench bench = new Bench(0, 1);
            boolean mode = place == 0 || place == 31;
            check.due("words answered at place " + place, bench.say(command(5, true, place, 3)), mode ? 1 : 4);
            check.due("CHECK behind place " + place, bench.lines.told(5, 3), mode ? 16 : 0);
        }
        return check;
    }

    private static Check addresses() {
        Check check = new Check("'TERMINALS have addresses 0 .. 30' and 31 is ALL");
        TwinLines x = new TwinLines();
        for (int address = 0; address <= 30; address++) {
            x.terminal(address, 4);
        }
        x.transfer(3, 0, 0, 0, 0, 0, 0, 0);
        x.transfer(3, 0, 0, 30, 0, 0, 0, 0);
        x.close();
        check.due("both ends", x.run(1), 2);
        for (int address = 0; address <= 30; address++) {
            check.due("taken by " + address, x.told(address, 5), address == 0 || address == 30 ? 1 : 0);
        }
        check.due("status of 0", x.result(0, 4), 0);
        check.due("status of 30", x.result(1, 4), 30 * 2_048);
        x.transfer(3, 0, 0, 31, 3, 0, 0, 0);
        x.close();
        x.run(2);
        for (int address = 0; address <= 30; address++) {
            check.due("done by " + address, x.told(address, 3), 16);
            check.due("FOR ALL of " + address, x.told(address, 0), address * 2_048 + 16);
        }
        return check;
    }

    private static Check atFirst() {
        Check check = new Check("'it does at first', 'not at first', 'all 0 at first'");
        TwinLines x = new TwinLines();
        x.terminal(5, 8);
        for (int line = 0; line <= 1; line++) {
            check.due("listens on " + line, x.listens(5, line, true), 1);
        }
        check.due("SHUT", x.told(5, 4), 0);
        check.due("VECTOR", x.told(5, 7), 0);
        check.due("CHECK", x.told(5, 3), 0);
        check.due("CLOCK", x.told(5, 2), 0);
        check.due("notes, ERROR and FOR ALL", x.told(5, 0), FIVE);
        for (int k = 0; k < 32; k++) {
            check.due("holds " + k, x.hold(5, 30, k, 0), 0);
            check.due("got " + k, x.got(5, 30, k), 0);
            check.due("block 15 " + k, x.block(15, k, -1), 0);
        }
        return check;
    }

    private static Check hiddenFlaw() {
        Check check = new Check("'but not FLAW, while that is HIDDEN'");
        Bench bench = new Bench(0, 1);
        bench.lines.note(5, 1, true);
        bench.lines.note(5, 4, true);
        bench.say(command(5, true, 0, 6));
        check.due("answered status", bench.lines.heard(1, 0), FIVE + 4);
        check.due("told status", bench.lines.told(5, 0), FIVE + 4);
        check.due("the note is on", bench.lines.note(5, 1, true), 1);
        bench.say(command(5, true, 0, 3));
        check.due("CHECK, HIDDEN or not", bench.lines.told(5, 3), 16 + 1);
        bench.say(command(5, true, 0, 7));
        check.due("answered status then", bench.lines.heard(1, 0), FIVE + 5);
        return check;
    }

    private static Check takesTheLast() {
        Check check = new Check("'TAKES the last sound word of sort 1 in it that has its own address or 31'");
        int own = command(5, true, 0, 1);
        int all = command(ALL, true, 0, 4);
        int other = command(6, true, 0, 0);
        // the message, then LAST of 5 (without sort), whether it has ERROR
        int[][] rows = {{own, all, all, 0}, {all, own, own, 0}, {own, own, own, 0}, {own, other, own, 1},
            {other, own, own, 0}, {own, UNSOUND, own, 1}, {UNSOUND, own, own, 0}, {own, own % SORT, own, 1},
            {own % SORT, own, own, 0}, {own % SORT, own % SORT, -1, 0}, {UNSOUND, UNSOUND, -1, 0}, {other, other, -1, 0}};
        for (int[] row : rows) {
            Bench bench = new Bench(0, 2);
            bench.say(row[0], row[1]);
            String name = row[0] + " " + row[1];
            check.due("LAST behind " + name, bench.lines.told(5, 1), row[2] < 0 ? -1 : row[2] % SORT);
            check.due("taken of " + name, bench.lines.told(5, 5), row[2] < 0 ? 0 : 1);
            check.due("ERROR behind " + name, hasError(bench, 5), row[3] == 1);
        }
        Bench deaf = new Bench(1, 1);
        deaf.lines.listens(5, 1, false);
        check.due("one that does not listen", deaf.say(own), 0);
        check.due("takes nothing", deaf.lines.told(5, 5), 0);
        Bench full = new Bench(0, 33);
        int[] message = new int[33];
        Arrays.fill(message, command(5, true, 0, 9));
        message[32] = own;
        check.due("33 commands", full.say(message), 1);
        check.due("one is taken", full.lines.told(5, 5), 1);
        check.due("it is the last one", full.lines.told(5, 1), own % SORT);
        Bench zero = new Bench(0, 1);
        zero.lines.terminal(0, 4);
        check.due("a command of bits 0", zero.say(SORT), 0);
        check.due("is one to 0", zero.lines.told(0, 5), 1);
        check.due("is its LAST", zero.lines.told(0, 1), 0);
        check.due("is none that it knows", zero.lines.told(0, 0), T);
        return check;
    }

    private static Check restOfTwoAndEighteen() {
        Check check = new Check("'MODE with T, code 2 or 18, its own address, no rest'");
        for (int code = 2; code <= 18; code += 16) {
            for (int behind : new int[] {0, UNSOUND, command(9, true, 3, 1)}) {
                Bench bench = new Bench(0, 2);
                check.due("not with a rest", bench.say(command(5, true, 0, code), behind), 0);
                check.due("LAST is this one", bench.lines.told(5, 1), FIVE + T + code);
                check.due("ERROR", hasError(bench, 5), true);
            }
            Bench bench = new Bench(0, 1);
            check.due("not without T", bench.say(command(5, false, 0, code)), 0);
            check.due("LAST is that", bench.lines.told(5, 1), FIVE + code);
            check.due("as it is: ERROR stays", bench.say(command(5, true, 31, code)), code == 2 ? 1 : 2);
            check.due("ERROR is answered", bench.lines.heard(code == 2 ? 1 : 2, 0), FIVE + T);
            check.due("LAST then", bench.lines.told(5, 1), code == 2 ? FIVE + T + 31 * 32 + 2 : FIVE + 18);
            check.due("not to ALL", bench.say(command(ALL, true, 0, code)), 0);
            check.due("ERROR and FOR ALL", bench.lines.told(5, 0), FIVE + T + 16);
            bench.lines.note(5, 8, true);
            check.due("BUSY does not matter", bench.say(command(5, true, 0, code)), code == 2 ? 1 : 2);
            check.due("FOR ALL stays", bench.lines.told(5, 0), FIVE + T + 16 + 8);
        }
        return check;
    }

    private static Check lastBeforeAny() {
        Check check = new Check("'and with 18 LAST (0 before any)'");
        Bench bench = new Bench(0, 1);
        check.due("18", bench.say(command(5, true, 0, 18)), 2);
        check.due("0", bench.lines.heard(1, 0), 0);
        check.due("of sort 0", bench.lines.heard(1, 1), 0);
        check.due("- 1 is told still", bench.lines.told(5, 1), -1);
        bench.say(command(5, true, 0, 18));
        check.due("0 again", bench.lines.heard(1, 0), 0);
        bench.say(command(5, true, 0, 2));
        bench.say(command(5, true, 0, 18));
        check.due("code 2 is LAST", bench.lines.heard(1, 0), FIVE + T + 2);
        return check;
    }

    private static Check gets() {
        Check check = new Check("'the rest is count sound words of sort 0'");
        for (int count = 1; count <= 32; count++) {
            for (int words = Math.max(count - 1, 0); words <= Math.min(count + 1, 32); words++) {
                Bench bench = new Bench(0, words + 1);
                boolean fits = words == count;
                String name = words + " words for a count of " + count;
                check.due(name, bench.say(Bench.withData(command(5, false, 30, count % 32), words)), fits ? 1 : 0);
                check.due("ERROR of " + name, hasError(bench, 5), !fits);
                for (int k = 0; k < 32; k += k == 0 ? count : 32) {
                    check.due("got " + k + " of " + name, bench.lines.got(5, 30, k), fits && k < count ? k + 1 : 0);
                }
                check.due("last of " + name, bench.lines.got(5, 30, count - 1), fits ? count : 0);
            }
        }
        return check;
    }

    private static Check getsSoundDataAlone() {
        Check check = new Check("'count sound words of sort 0'");
        for (int wrong : new int[] {UNSOUND, command(9, false, 3, 1), command(9, true, 0, 1)}) {
            for (int at = 1; at <= 3; at++) {
                int[] message = Bench.withData(command(5, false, 1, 3), 3);
                message[at] = wrong;
                Bench bench = new Bench(0, 4);
                check.due("answer with word " + at + " wrong", bench.say(message), 0);
                check.due("ERROR with word " + at + " wrong", hasError(bench, 5), true);
                check.due("got nothing", bench.lines.got(5, 1, 0), 0);
            }
        }
        return check;
    }

    private static Check relayed() {
        Check check = new Check("'just one sound word of sort 1, with T, an address neither its own nor 31, "
                + "a place that is no mode, the same count'");
        int get = command(5, false, 2, 1);
        // what stands behind, words answered, whether it is relayed
        int[][] rows = {{command(6, true, 1, 1), 3, 1}, {command(6, true, 30, 1), 3, 1},
            {command(6, true, 0, 1), 1, 0}, {command(6, true, 31, 1), 1, 0}, {command(6, false, 1, 1), 0, 0},
            {command(6, true, 1, 2), 3, 0}, {command(6, true, 1, 0), 33, 0}, {command(7, true, 1, 1), 0, 0},
            {UNSOUND, 0, 0}};
        for (int[] row : rows) {
            Bench bench = new Bench(0, 2);
            bench.lines.hold(6, 1, 0, 61);
            bench.lines.hold(6, 30, 0, 61);
            check.due("words behind " + row[0], bench.say(get, row[0]), row[1]);
            check.due("got behind " + row[0], bench.lines.got(5, 2, 0), row[2] == 1 ? 61 : 0);
            check.due("ERROR behind " + row[0], hasError(bench, 5), row[2] == 0);
        }
        // Its own address or 31 there is what it takes; count 0 and 32 words are the same count.
        Bench own = new Bench(0, 2);
        own.say(get, command(5, true, 3, 1));
        check.due("its own address: that is taken", own.lines.told(5, 1), FIVE + T + 3 * 32 + 1);
        own.say(get, command(ALL, true, 3, 1));
        check.due("31: that is taken", own.lines.told(5, 1), ALL * 2_048 + T + 3 * 32 + 1);
        Bench most = new Bench(0, 2);
        most.lines.hold(6, 3, 31, 32);
        check.due("32 words", most.say(command(5, false, 2, 0), command(6, true, 3, 0)), 34);
        check.due("got word 31", most.lines.got(5, 2, 31), 32);
        int[][] three = {{get, command(6, true, 1, 1), 0}, {get, 0, command(6, true, 1, 1)},
            {get, command(6, true, 1, 1), command(6, true, 1, 1)}, {get, command(6, true, 1, 1), UNSOUND}};
        for (int[] message : three) {
            Bench bench = new Bench(0, 3);
            bench.lines.hold(6, 1, 0, 61);
            bench.say(message);
            check.due("not just one: ERROR", hasError(bench, 5), true);
            check.due("not just one: got", bench.lines.got(5, 2, 0), 0);
        }
        return check;
    }

    private static Check relayedHears() {
        Check check = new Check("'a sound word of sort 1 with that other address, and just count sound words of sort 0'");
        long sync = 63L << 34;
        // the word altered (2: the status, 3 and 4: the words of the answer), in what, whether it is heard so
        long[][] rows = {{2, 1, 0}, {2, sync, 0}, {2, 3L << 24 | 3, 0}, {2, 3L << 22 | 3, 1}, {3, 1, 0}, {3, sync, 0},
            {4, 1, 0}, {4, sync, 0}, {4, 3L << 2 | 3, 1}};
        for (long[] row : rows) {
            Bench bench = new Bench(0, 2);
            bench.lines.hold(6, 1, 0, 61);
            bench.lines.alter((int) row[0], row[1]);
            bench.say(command(5, false, 2, 2), command(6, true, 1, 2));
            String name = "word " + row[0] + " altered in " + row[1];
            check.due("got with " + name, bench.lines.got(5, 2, 0), row[2] == 1 ? 61 : 0);
            check.due("ERROR with " + name, hasError(bench, 5), row[2] == 0);
            check.due("answers with " + name, bench.lines.told(5, 6), row[2]);
        }
        for (int why = 0; why < 4; why++) {
            Bench bench = new Bench(0, 2);
            bench.lines.note(6, 8, why == 0);
            bench.lines.bar(6, true, 1, why == 1);
            bench.lines.listens(6, 0, why != 2);
            if (why == 3) {
                bench.lines.mute(6, 0);
            }
            check.due("an answer without words, or none", bench.say(command(5, false, 2, 1), command(6, true, 1, 1)),
                    why < 2 ? 1 : 0);
            check.due("ERROR without words", hasError(bench, 5), true);
            check.due("no answer without words", bench.lines.told(5, 6), 0);
        }
        return check;
    }

    private static Check relayedEnds() {
        Check check = new Check("RELAYED at both ends of '0 .. 30'");
        for (int to = 0; to <= 30; to += 30) {
            Bench bench = new Bench(0, 2);
            bench.lines.terminal(0, 4);
            bench.lines.terminal(30, 4);
            bench.lines.hold(30 - to, 1, 0, 61);
            check.due("words", bench.say(command(to, false, 2, 1), command(30 - to, true, 1, 1)), 3);
            check.due("got by " + to, bench.lines.got(to, 2, 0), 61);
            check.due("who is last", bench.lines.heard(1, 3), to);
            check.due("its status is bits " + to * 2_048, bench.lines.heard(1, 0), to * 2_048);
            check.due("ALL but " + (30 - to), bench.say(command(ALL, false, 3, 1), command(30 - to, true, 1, 1)), 2);
            check.due("got by " + to + " then", bench.lines.got(to, 3, 0), 61);
        }
        return check;
    }

    private static Check relayedOnce() {
        Check check = new Check("'it waits for the answer to the message' (and not to the next one)");
        Bench bench = new Bench(0, 2);
        bench.lines.hold(6, 1, 0, 61);
        bench.say(command(5, false, 2, 1), command(6, true, 1, 1));
        bench.say(UNSOUND, command(6, true, 3, 1));
        check.due("ERROR is not on", hasError(bench, 5), false);
        check.due("got stays", bench.lines.got(5, 2, 0), 61);
        check.due("answers", bench.lines.told(5, 6), 1);
        bench.say(command(5, false, 2, 1), command(9, true, 1, 1));
        check.due("no answer to it", hasError(bench, 5), true);
        bench.say(UNSOUND, command(6, true, 1, 1));
        check.due("answers then", bench.lines.told(5, 6), 1);
        return check;
    }

    private static Check sends() {
        Check check = new Check("'No mode, T, its own address, no rest'");
        for (int count = 1; count <= 32; count++) {
            Bench bench = new Bench(0, 1);
            bench.lines.hold(5, 1, count - 1, 7);
            check.due("words for a count of " + count, bench.say(command(5, true, 1, count % 32)), count + 1);
            check.due("the last one of " + count, bench.lines.heard(1, 0), 7);
            check.due("the first one of " + count, bench.lines.heard(count, 0), count == 1 ? 7 : 0);
        }
        Bench all = new Bench(0, 1);
        check.due("to ALL", all.say(command(ALL, true, 1, 1)), 0);
        check.due("ERROR to ALL", all.lines.told(5, 0), FIVE + T + 16);
        for (int behind : new int[] {0, UNSOUND, command(9, true, 1, 1)}) {
            Bench bench = new Bench(0, 2);
            check.due("with a rest", bench.say(command(5, true, 1, 1), behind), 0);
            check.due("ERROR with a rest", bench.lines.told(5, 0), FIVE + T);
        }
        return check;
    }

    /** Every code, with and without T, at both places, to one and to ALL, with each rest. */
    private static Check modes() {
        Check check = new Check("'MODE with T, no rest, code ..; without T, the rest one sound word of sort 0, code ..'");
        int[][] rests = {{}, {300}, {UNSOUND}, {command(9, true, 3, 1)}, {300, 301}};
        for (int[] rest : rests) {
            for (int address = 5; address <= ALL; address += ALL - 5) {
                for (int code = 0; code < 32; code++) {
                    mode(check, command(address, true, 0, code), rest);
                    mode(check, command(address, true, 31, code), rest);
                    mode(check, command(address, false, 0, code), rest);
                    mode(check, command(address, false, 31, code), rest);
                }
            }
        }
        return check;
    }

    private static void mode(Check check, int command, int[] rest) {
        int code = command % 32;
        boolean t = (command & T) != 0;
        boolean all = command % SORT / 2_048 == ALL;
        boolean asks = t && !all && rest.length == 0 && (code == 2 || code == 18);
        boolean alone = code == 1 || code >= 3 && code <= 8 || !all && (code == 0 || code == 16 || code == 19);
        boolean withWord = code == 17 || code == 20 || code == 21;
        boolean does = t ? rest.length == 0 && alone : rest.length == 1 && rest[0] == 300 && withWord;
        Bench bench = new Bench(0, rest.length + 1);
        int[] message = new int[rest.length + 1];
        System.arraycopy(rest, 0, message, 1, rest.length);
        message[0] = command(5, true, 0, 9);
        bench.say(message);
        message[0] = command;
        String name = "mode " + command % SORT + " with a rest of " + rest.length + (rest.length == 1 ? " " + rest[0] : "");
        int words = asks || does ? code == 16 || code == 18 || code == 19 ? 2 : 1 : 0;
        check.due(name, bench.say(message), all ? 0 : words);
        check.due("status behind " + name, bench.lines.told(5, 0), FIVE + (all ? 16 : 0) + (does ? 0 : T));
        check.due("LAST behind " + name, bench.lines.told(5, 1), asks && code == 18 ? FIVE + T + 9 : command % SORT);
        check.due("CLOCK behind " + name, bench.lines.told(5, 2), does && code == 17 ? 300 : 0);
        check.due("CHECK behind " + name, bench.lines.told(5, 3), does && code == 3 ? 16 : 0);
        check.due("SHUT behind " + name, bench.lines.told(5, 4), does && code == 4 ? 2 : 0);
    }

    private static Check clockToZero() {
        Check check = new Check("'1 CLOCK is 0', '17 CLOCK is the word'");
        for (int address = 5; address <= ALL; address += ALL - 5) {
            TwinLines x = new TwinLines();
            x.terminal(5, 8);
            x.transfer(3, 0, 0, address, 17, 0, 2, 0);
            x.close();
            x.transfer(3, 0, 0, address, 1, 0, 2, 0);
            x.close();
            for (int word : new int[] {65_535, 0, 1}) {
                x.block(2, 0, word);
                x.run(1);
                check.due("17 with " + word, x.told(5, 2), word);
                x.run(1);
                check.due("1 behind " + word, x.told(5, 2), 0);
            }
        }
        return check;
    }

    private static Check checkParts() {
        Check check = new Check("'1 for FLAW (HIDDEN or not), 2 and 4 for lines 0 and 1 on which it is SHUT'");
        for (int bits = 0; bits < 8; bits++) {
            TwinLines x = new TwinLines();
            x.terminal(5, 8);
            x.note(5, 1, (bits & 1) != 0);
            x.transfer(3, 0, 0, 31, (bits & 2) != 0 ? 4 : 5, 0, 0, 1);
            x.transfer(3, 0, 0, 31, (bits & 4) != 0 ? 4 : 5, 0, 0, 0);
            x.transfer(3, 0, 0, 31, 6, 0, 0, 0);
            x.transfer(3, 0, 0, 31, 3, 0, 0, 0);
            x.close();
            x.run(1);
            check.due("CHECK with " + bits, x.told(5, 3), 16 + bits);
            check.due("SHUT with " + bits, x.told(5, 4), bits / 2);
        }
        return check;
    }

    private static Check eight() {
        Check check = new Check("'8 not SHUT, FLAW not HIDDEN, CHECK and CLOCK 0'");
        TwinLines x = new TwinLines();
        x.terminal(5, 8);
        x.note(5, 1, true);
        x.block(2, 0, 65_535);
        for (int code : new int[] {17, 6, 4, 3}) {
            x.transfer(3, 0, 0, 31, code, 0, 2, 0);
        }
        x.transfer(3, 0, 0, 31, 4, 0, 2, 1);
        x.close();
        x.transfer(3, 0, 0, 5, 8, 0, 2, 0);
        x.close();
        x.run(1);
        int[] before = {FIVE + 16, ALL * 2_048 + T + 4, 65_535, 16 + 1 + 4, 3};
        int[] behind = {FIVE + 1, FIVE + T + 8, 0, 0, 0};
        for (int what = 0; what < 5; what++) {
            check.due("before: told " + what, x.told(5, what), before[what]);
        }
        x.run(1);
        for (int what = 0; what < 5; what++) {
            check.due("behind: told " + what, x.told(5, what), behind[what]);
        }
        check.due("it is SHUT no more, so it answers", x.result(5, 1), 1);
        check.due("its status as it is then", x.result(5, 4), FIVE + 1);
        x.run(1);
        check.due("the number of codes 3 is counted on", x.told(5, 3), 32 + 1 + 4);
        return check;
    }

    private static Check checkWraps() {
        Check check = new Check("'CHECK is 16 times the number of codes 3 .. (modulo 65536)'");
        TwinLines x = new TwinLines();
        x.terminal(5, 8);
        x.note(5, 1, true);
        for (int i = 0; i < 8; i++) {
            x.transfer(3, 0, 0, 5, 3, 0, 0, 0);
        }
        x.close();
        x.transfer(3, 0, 0, 5, 3, 0, 0, 0);
        x.close();
        x.transfer(3, 0, 0, 5, 19, 0, 4, 0);
        x.close();
        // 454 rounds of 9 codes are 4086; the frames of the next round make 4094, 4095 and then 4103.
        for (int i = 0; i < 454; i++) {
            x.run(3);
        }
        check.due("4086", x.told(5, 3), 16 * 4_086 + 1);
        x.run(1);
        check.due("4094", x.told(5, 3), 16 * 4_094 + 1);
        x.run(1);
        check.due("4095: the most", x.told(5, 3), 65_521);
        x.run(1);
        check.due("sent as it is", x.block(4, 0, -1), 65_521);
        x.run(1);
        check.due("4103 is 7", x.told(5, 3), 16 * 7 + 1);
        x.run(2);
        check.due("8 is sent", x.block(4, 0, -1), 16 * 8 + 1);
        check.due("each one was counted", x.told(5, 5), 455 + 1 + 4_104);
        return check;
    }

    private static Check shutByWord() {
        Check check = new Check("'if the word is the number of the other line, it is SHUT there; 21 it is not (else nothing)'");
        for (int line = 0; line <= 1; line++) {
            for (int word : new int[] {0, 1, 2, 3, 32_768, 65_535}) {
                Bench bench = new Bench(line, 2);
                boolean fits = word == 1 - line;
                int other = 2 - line;
                check.due("20 is answered", bench.say(command(5, false, 0, 20), word), 1);
                check.due("20 with " + word + " on " + line, bench.lines.told(5, 4), fits ? other : 0);
                bench.say(command(5, false, 0, 20), 1 - line);
                check.due("21 is answered", bench.say(command(5, false, 0, 21), word), 1);
                check.due("21 with " + word + " on " + line, bench.lines.told(5, 4), fits ? 0 : other);
            }
        }
        return check;
    }

    private static Check serviceUnsaid() {
        Check check = new Check("'SERVICE is off behind that (also when the answer is not said)'");
        // SHUT on the first line, MUTE on it, or BUSY on both: only who is BUSY does not do it.
        for (int why = 0; why < 3; why++) {
            TwinLines x = new TwinLines();
            x.terminal(5, 8);
            x.retries(0);
            x.transfer(3, 0, 0, 5, why == 0 ? 4 : 0, 0, 0, 1);
            x.transfer(3, 0, 0, 5, 16, 0, 1, 0);
            x.close();
            x.vector(5, 65_535);
            x.note(5, 256, true);
            x.note(5, 8, why == 2);
            if (why == 1) {
                x.mute(5, 1);
            }
            x.run(1);
            int status = why == 2 ? FIVE + 256 + 8 : FIVE;
            check.due("attempts", x.result(1, 1), 2);
            check.due("status in the end", x.told(5, 0), status);
            check.due("status in the second answer", x.result(1, 4), status);
            check.due("VECTOR", x.block(1, 0, -1), why == 2 ? 0 : 65_535);
        }
        Bench still = new Bench(0, 1);
        still.lines.note(5, 256, true);
        still.say(command(5, true, 0, 16));
        check.due("its status has SERVICE still", still.lines.heard(2, 0), FIVE + 256);
        return check;
    }

    private static Check barredOrBusy() {
        Check check = new Check("'BARRED for that T: ERROR is on. If that is so, or it is BUSY, it does nothing ..'");
        for (int bits = 0; bits < 8; bits++) {
            boolean barredGet = (bits & 1) != 0;
            boolean barredSend = (bits & 2) != 0;
            int busy = (bits & 4) != 0 ? 8 : 0;
            Bench get = new Bench(0, 2);
            Bench send = new Bench(0, 1);
            for (Bench bench : new Bench[] {get, send}) {
                bench.lines.bar(5, false, 30, barredGet);
                bench.lines.bar(5, true, 30, barredSend);
                bench.lines.note(5, 8, busy != 0);
            }
            check.due("status alone of GET " + bits, get.say(command(5, false, 30, 1), 77), 1);
            check.due("status of GET " + bits, get.lines.heard(1, 0), FIVE + (barredGet ? T : 0) + busy);
            check.due("got " + bits, get.lines.got(5, 30, 0), barredGet || busy != 0 ? 0 : 77);
            boolean sends = !barredSend && busy == 0;
            check.due("words of SEND " + bits, send.say(command(5, true, 30, 1)), sends ? 2 : 1);
            check.due("status of SEND " + bits, send.lines.heard(sends ? 2 : 1, 0), FIVE + (barredSend ? T : 0) + busy);
        }
        Bench mode = new Bench(0, 1);
        for (int place = 1; place <= 30; place++) {
            mode.lines.bar(5, true, place, true);
        }
        check.due("a MODE is at no place", mode.say(command(5, true, 31, 3)), 1);
        check.due("it is done", mode.lines.told(5, 3), 16);
        mode.lines.note(5, 8, true);
        check.due("a MODE while BUSY", mode.say(command(5, true, 0, 3)), 1);
        check.due("it is not done", mode.lines.told(5, 3), 16);
        check.due("19 while BUSY: status alone", mode.say(command(5, true, 0, 19)), 1);
        return check;
    }

    private static Check toAllNobodyAnswers() {
        Check check = new Check("'To ALL nobody answers'");
        Bench get = new Bench(0, 2);
        check.due("GET", get.say(command(ALL, false, 1, 1), 5), 0);
        check.due("both got it", get.lines.got(5, 1, 0) + get.lines.got(6, 1, 0), 10);
        check.due("17", get.say(command(ALL, false, 0, 17), 6), 0);
        check.due("both have it", get.lines.told(5, 2) + get.lines.told(6, 2), 12);
        get.lines.hold(6, 1, 0, 9);
        check.due("RELAYED: the other one alone", get.say(command(ALL, false, 2, 1), command(6, true, 1, 1)), 2);
        check.due("got", get.lines.got(5, 2, 0), 9);
        check.due("answers of 5", get.lines.told(5, 6), 0);
        get.lines.bar(5, false, 1, true);
        get.lines.note(6, 8, true);
        check.due("BARRED and BUSY ones", get.say(command(ALL, false, 1, 1), 8), 0);
        check.due("they got nothing", get.lines.got(5, 1, 0) + get.lines.got(6, 1, 0), 10);
        check.due("ERROR of 5", get.lines.told(5, 0), FIVE + T + 16);
        return check;
    }

    private static Check shutOrMute() {
        Check check = new Check("'said on the line of the message, unless it is SHUT there, or MUTE for that command'");
        for (int line = 0; line <= 1; line++) {
            TwinLines x = new TwinLines();
            x.terminal(5, 8);
            x.retries(0);
            int[] codes = {4, 0, 2, 18, 5, 8};
            for (int i = 0; i < codes.length; i++) {
                x.transfer(3, 0, 0, 5, codes[i], 0, 1, i == 0 || codes[i] == 5 ? 1 - line : line);
                x.close();
            }
            x.run(1);
            check.due("SHUT on " + line, x.told(5, 4), 1 << line);
            for (int i = 1; i <= 3; i++) {
                check.due("code " + codes[i] + " is done", x.run(1), 1);
                check.due("code " + codes[i] + " on the other line", x.result(i, 2), 1 - line);
                check.due("both were taken", x.told(5, 5), 1 + 2 * i);
                check.due("one was said", x.told(5, 6), 1 + i);
            }
            x.mute(5, 0);
            check.due("5 while MUTE", x.run(1), 1);
            check.due("its second attempt is SHUT on no line", x.told(5, 4), 0);
            check.due("attempts", x.result(4, 1), 2);
            x.mute(5, 0);
            x.mute(5, 1);
            check.due("8 while MUTE on both lines", x.run(1), 0);
            check.due("said", x.told(5, 6), 5);
        }
        Bench eight = new Bench(1, 2);
        eight.say(command(5, false, 0, 20), 0);
        check.due("SHUT on 0", eight.lines.told(5, 4), 1);
        check.due("said on 1", eight.say(command(5, false, 0, 17), 0), 1);
        return check;
    }

    private static Check relayedBehindOthers() {
        Check check = new Check("'those that were RELAYED behind all others'");
        Bench bench = new Bench(0, 2);
        bench.lines.hold(6, 1, 0, 9);
        bench.say(command(5, false, 2, 1), command(6, true, 1, 1));
        int[] who = {32, 32, 6, 6, 5};
        for (int i = 0; i < who.length; i++) {
            check.due("who said word " + i, bench.lines.heard(who.length - i, 3), who[i]);
        }
        check.due("GAPs before both", bench.lines.heard(1, 4), 40 + 4 + 40 + 8);
        bench.lines.hold(5, 1, 0, 8);
        bench.say(command(6, false, 2, 1), command(5, true, 1, 1));
        int[] then = {32, 32, 5, 5, 6};
        for (int i = 0; i < then.length; i++) {
            check.due("who said word " + i + " then", bench.lines.heard(then.length - i, 3), then[i]);
        }
        return check;
    }
}
