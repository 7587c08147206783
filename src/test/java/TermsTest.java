/** What a terminal does with its command, as the document's Terms tell it (promises 10, 14 and 18). */
public final class TermsTest {
    private static final long SYNC = 63L << 34;
    private static final int FIVE = 5 * 2_048;
    private static final int SIX = 6 * 2_048;
    private static final int EVERYONE = 31 * 2_048;
    private static final int T = 1_024;

    public static void main(String[] args) {
        Check.end(codes(), lastAndStatus(), shut(), shutByWord(), reset(), busy(), service(), relayed(), forAll(),
                strayCommands(), alteredCommands());
    }

    private static TwinLines start() {
        TwinLines x = new TwinLines();
        x.terminal(5, 8);
        x.terminal(6, 4);
        x.retries(0);
        return x;
    }

    /** Modes with block 1 on a line, each in a frame of its own, so that run(1) is a step. */
    private static void tell(TwinLines x, int to, int line, int... codes) {
        for (int code : codes) {
            x.transfer(3, 0, 0, to, code, 0, 1, line);
            x.close();
        }
    }

    private static void told(Check check, String when, TwinLines x, int address, int... want) {
        for (int what = 0; what < want.length; what++) {
            check.due(when + ": told(" + address + ", " + what + ")", x.told(address, what), want[what]);
        }
    }

    private static Check codes() {
        Check check = new Check("mode codes");
        TwinLines x = start();
        x.note(5, 1, true);
        x.block(1, 0, 500);
        tell(x, 5, 1, 17, 6, 4, 3, 7, 1, 5, 3);
        // status, LAST, CLOCK, CHECK, SHUT behind each of them
        int[][] want = {{FIVE + 1, FIVE + 17, 500, 0, 0}, {FIVE, FIVE + T + 6, 500, 0, 0}, {FIVE, FIVE + T + 4, 500, 0, 1},
            {FIVE, FIVE + T + 3, 500, 16 + 1 + 2, 1}, {FIVE + 1, FIVE + T + 7, 500, 19, 1}, {FIVE + 1, FIVE + T + 1, 0, 19, 1},
            {FIVE + 1, FIVE + T + 5, 0, 19, 0}, {FIVE + 1, FIVE + T + 3, 0, 32 + 1, 0}};
        for (int i = 0; i < want.length; i++) {
            check.due("run " + i, x.run(1), 1);
            told(check, "behind " + i, x, 5, want[i]);
            check.due("the status that was answered", x.result(i, 4), want[i][0]);
        }
        TwinLines y = start();
        tell(y, 5, 0, 4, 3);
        y.run(2);
        check.due("CHECK with line 1 shut", y.told(5, 3), 16 + 4);
        y.note(5, 1, true);
        y.run(2);
        check.due("CHECK with FLAW too", y.told(5, 3), 32 + 4 + 1);
        return check;
    }

    private static Check lastAndStatus() {
        Check check = new Check("codes 2 and 18");
        TwinLines x = start();
        x.block(1, 0, 3);
        tell(x, 5, 0, 18);
        check.due("18 first", x.run(1), 1);
        check.due("0 before any", x.block(1, 0, -1), 0);
        check.due("LAST stays", x.told(5, 1), -1);
        check.due("but it was taken", x.told(5, 5), 1);
        x = start();
        x.transfer(0, 0, 0, 31, 1, 1, 0, 0);
        x.transfer(3, 0, 0, 5, 18, 0, 1, 0);
        x.transfer(3, 0, 0, 5, 2, 0, 1, 0);
        x.transfer(3, 0, 0, 5, 18, 0, 2, 0);
        x.transfer(3, 0, 0, 5, 0, 0, 0, 0);
        x.close();
        check.due("run", x.run(1), 5);
        check.due("LAST is the one to ALL", x.block(1, 0, -1), EVERYONE + 32 + 1);
        check.due("FOR ALL with 18", x.result(1, 4), FIVE + 16);
        check.due("FOR ALL with 2", x.result(2, 4), FIVE + 16);
        check.due("LAST is 2", x.block(2, 0, -1), FIVE + T + 2);
        check.due("FOR ALL is off with 0", x.result(4, 4), FIVE);
        x.bar(5, false, 1, true);
        x.note(5, 8, true);
        check.due("run while BUSY", x.run(1), 1);
        check.due("ERROR and BUSY stay for 2", x.result(2, 4), FIVE + T + 16 + 8);
        check.due("WHY", x.result(2, 3), 4);
        check.due("18 sends LAST while BUSY", x.heard(5, 0), FIVE + T + 2);
        check.due("that is data", x.heard(5, 1), 0);
        check.due("BUSY alone with 0", x.result(4, 4), FIVE + 8);
        x.note(5, 8, false);
        x.bar(5, false, 1, false);
        x.mute(5, 1);
        check.due("run while MUTE", x.run(1), 5);
        check.due("18 was not said", x.result(1, 1), 2);
        return check;
    }

    private static Check shut() {
        Check check = new Check("codes 4 and 5");
        TwinLines x = start();
        x.transfer(3, 0, 0, 5, 4, 0, 0, 1);
        x.transfer(3, 0, 0, 5, 0, 0, 0, 0);
        x.transfer(3, 0, 0, 5, 2, 0, 0, 0);
        x.transfer(0, 0, 0, 5, 1, 1, 0, 0);
        x.close();
        x.transfer(3, 0, 0, 5, 5, 0, 0, 1);
        x.transfer(3, 0, 0, 5, 0, 0, 0, 0);
        x.close();
        check.due("run", x.run(1), 4);
        check.due("shut on 0", x.told(5, 4), 1);
        for (int i = 1; i < 4; i++) {
            check.due("said on the other line", x.result(i, 2), 1);
        }
        check.due("taken on both", x.told(5, 5), 7);
        check.due("answered on one", x.told(5, 6), 4);
        check.due("run then", x.run(1), 2);
        check.due("not shut", x.told(5, 4), 0);
        check.due("said on its line", x.result(5, 2), 0);
        return check;
    }

    private static Check shutByWord() {
        Check check = new Check("codes 20 and 21");
        for (int line = 0; line <= 1; line++) {
            for (int word : new int[] {0, 1, 2, 65_535}) {
                TwinLines x = start();
                x.block(1, 0, word);
                tell(x, 31, line, 20, 4);
                tell(x, 5, line, 21);
                int other = 1 << 1 - line;
                boolean fits = word == 1 - line;
                check.due("20", x.run(1), 1);
                check.due("20 with " + word + " on " + line, x.told(6, 4), fits ? other : 0);
                check.due("4", x.run(1), 1);
                check.due("21", x.run(1), 1);
                check.due("21 with " + word + " on " + line, x.told(5, 4), fits ? 0 : other);
                check.due("the other terminal is shut still", x.told(6, 4), other);
            }
        }
        return check;
    }

    private static Check reset() {
        Check check = new Check("code 8");
        TwinLines x = start();
        x.block(1, 0, 500);
        x.note(5, 1, true);
        tell(x, 5, 1, 17, 3, 6, 4);
        tell(x, 5, 0, 8, 3);
        check.due("run", x.run(4), 4);
        told(check, "before", x, 5, FIVE, FIVE + T + 4, 500, 17, 1);
        check.due("8", x.run(1), 1);
        check.due("it is shut no more when it answers", x.result(4, 1), 1);
        check.due("status", x.result(4, 4), FIVE + 1);
        told(check, "behind", x, 5, FIVE + 1, FIVE + T + 8, 0, 0, 0);
        check.due("3", x.run(1), 1);
        check.due("codes 3 so far are counted on", x.told(5, 3), 2 * 16 + 1);
        return check;
    }

    private static Check busy() {
        Check check = new Check("BUSY");
        TwinLines x = start();
        x.note(5, 8, true);
        x.note(5, 256, true);
        x.vector(5, 9);
        x.hold(5, 1, 0, 4);
        x.block(1, 0, 1);
        for (int code : new int[] {0, 1, 3, 4, 6, 8, 16, 17, 19, 20}) {
            x.transfer(3, 0, 0, 5, code, 0, 1, 0);
        }
        x.transfer(1, 5, 1, 0, 0, 1, 2, 0);
        x.transfer(0, 0, 0, 5, 1, 1, 1, 0);
        x.close();
        check.due("none is done", x.run(1), 0);
        for (int i = 0; i < 12; i++) {
            check.due("WHY of " + i, x.result(i, 3), 4);
            check.due("status of " + i, x.result(i, 4), FIVE + 256 + 8);
        }
        told(check, "behind", x, 5, FIVE + 256 + 8, FIVE + 32 + 1, 0, 0, 0, 24, 24, 9);
        check.due("not got", x.got(5, 1, 0), 0);
        check.due("status alone", x.count(1), 24 + 2 * 3 + 24);
        x.note(5, 8, false);
        check.due("run then", x.run(1), 12);
        return check;
    }

    private static Check service() {
        Check check = new Check("codes 16 and 19");
        TwinLines x = start();
        x.vector(5, 1_234);
        x.note(5, 256, true);
        tell(x, 5, 0, 16);
        check.due("16", x.run(1), 1);
        check.due("SERVICE still", x.result(0, 4), FIVE + 256);
        check.due("VECTOR", x.block(1, 0, -1), 1_234);
        check.due("SERVICE is off", x.told(5, 0), FIVE);
        check.due("VECTOR stays", x.told(5, 7), 1_234);
        x.note(5, 256, true);
        x.mute(5, 0);
        check.due("again", x.run(1), 1);
        check.due("off behind what was not said", x.result(0, 4), FIVE);
        TwinLines y = start();
        tell(y, 5, 0, 3, 3, 19);
        check.due("3, 3, 19", y.run(3), 3);
        check.due("19 sends CHECK", y.block(1, 0, -1), 32);
        y.note(5, 8, true);
        check.due("3 while BUSY", y.run(1), 0);
        y.note(5, 8, false);
        check.due("3 and 19", y.run(2), 2);
        check.due("only those that it did", y.block(1, 0, -1), 48);
        return check;
    }

    private static Check relayed() {
        Check check = new Check("RELAYED");
        TwinLines x = start();
        x.hold(5, 1, 0, 10);
        x.hold(5, 1, 31, 41);
        int between = x.transfer(2, 5, 1, 6, 2, 32, 0, 0);
        x.close();
        check.due("run", x.run(1), 1);
        check.due("got 0", x.got(6, 2, 0), 10);
        check.due("got 31", x.got(6, 2, 31), 41);
        check.due("who answers last", x.heard(1, 3), 6);
        x.hold(5, 1, 0, 11);
        x.bar(6, false, 2, true);
        check.due("barred", x.run(1), 0);
        check.due("status alone", x.result(between, 4), SIX + T);
        x.bar(6, false, 2, false);
        x.note(6, 8, true);
        check.due("busy", x.run(1), 0);
        check.due("its status", x.result(between, 4), SIX + 8);
        check.due("got nothing", x.got(6, 2, 0), 10);
        x.note(6, 8, false);
        x.bar(5, true, 1, true);
        check.due("the other one barred", x.run(1), 0);
        check.due("WHY", x.result(between, 3), 4);
        check.due("status of the other one", x.result(between, 4), FIVE + T);
        check.due("ERROR", x.told(6, 0), SIX + T);
        x.bar(5, true, 1, false);
        x.mute(6, 0);
        check.due("mute on the first line", x.run(1), 1);
        check.due("attempts", x.result(between, 1), 2);
        check.due("got while mute", x.got(6, 2, 0), 11);
        x.hold(5, 1, 0, 12);
        x.alter(2, 3L << 24 | 3);
        x.alter(2 + 33 + 2, 3L << 24 | 3);
        check.due("a status with another address", x.run(1), 0);
        check.due("WHY then", x.result(between, 3), 3);
        check.due("got as before", x.got(6, 2, 0), 11);
        lesserAddressBehind(check);
        return check;
    }

    private static void lesserAddressBehind(Check check) {
        TwinLines x = start();
        x.hold(6, 1, 0, 10);
        x.transfer(2, 6, 1, 5, 2, 1, 0, 0);
        x.close();
        check.due("from the greater address", x.run(1), 1);
        check.due("the one that was relayed is last", x.heard(1, 3), 5);
        check.due("time", x.count(0), 40 + 4 + 40 + 8 + 20 + 4);
    }

    private static Check forAll() {
        Check check = new Check("to ALL");
        TwinLines x = start();
        x.terminal(30, 12);
        x.hold(5, 1, 0, 10);
        x.block(1, 0, 77);
        int between = x.transfer(2, 5, 1, 31, 2, 1, 0, 0);
        int out = x.transfer(0, 0, 0, 31, 3, 1, 1, 0);
        x.close();
        x.bar(30, false, 3, true);
        x.note(6, 8, true);
        check.due("run", x.run(1), 2);
        check.due("BETWEEN: one answer", x.result(between, 4), FIVE);
        check.due("OUT: none", x.result(out, 4), -1);
        check.due("words", x.count(1), 4 + 2);
        check.due("time", x.count(0), 40 + 8 + 40 + 4 + 40 + 4);
        check.due("got by 30", x.got(30, 2, 0), 10);
        check.due("not by one BUSY", x.got(6, 2, 0), 0);
        check.due("not at its place by the sender", x.got(5, 2, 0), 0);
        check.due("got of OUT by 5", x.got(5, 3, 0), 77);
        check.due("not by one BUSY", x.got(6, 3, 0), 0);
        check.due("not where it is barred", x.got(30, 3, 0), 0);
        check.due("status of 5", x.told(5, 0), FIVE + 16);
        check.due("status of 6", x.told(6, 0), SIX + 16 + 8);
        check.due("status of 30", x.told(30, 0), 30 * 2_048 + T + 16);
        x.listens(5, 0, false);
        check.due("the sender does not listen on 0", x.run(1), 2);
        check.due("its attempts", x.result(between, 1), 2);
        check.due("the others took both, and OUT", x.told(30, 5), 2 + 3);
        return check;
    }

    /**
     * The word of an OUT to 5 is heard as a command. Told of each: the word, how many words are
     * answered to it, the first of them (-1: none), WHY in the attempt, status of 5, LAST of 6.
     */
    private static Check strayCommands() {
        Check check = new Check("stray commands");
        int send = T + 3 * 32 + 1;
        int[][] rows = {
            {SIX + send, 3, SIX, 3, FIVE, SIX + send},
            {SIX + send + 1, 3, SIX, 3, FIVE + T, SIX + send + 1},
            {SIX + T, 1, SIX, 3, FIVE + T, SIX + T},
            {SIX + T + 31 * 32 + 2, 1, SIX, 3, FIVE + T, SIX + T + 31 * 32 + 2},
            {SIX + T + 18, 2, SIX, 3, FIVE + T, -1},
            {SIX + T + 9, 0, -1, 1, FIVE + T, SIX + T + 9},
            {SIX + T + 17, 0, -1, 1, FIVE + T, SIX + T + 17},
            {SIX + 0, 0, -1, 1, FIVE + T, SIX},
            {SIX + 3 * 32 + 1, 0, -1, 1, FIVE + T, SIX + 3 * 32 + 1},
            {SIX + 17, 0, -1, 1, FIVE + T, SIX + 17},
            {EVERYONE + send, 0, -1, 1, FIVE + T + 16, EVERYONE + send},
            {EVERYONE + T, 0, -1, 1, FIVE + T + 16, EVERYONE + T},
            {EVERYONE + T + 2, 0, -1, 1, FIVE + T + 16, EVERYONE + T + 2},
            {EVERYONE + T + 16, 0, -1, 1, FIVE + T + 16, EVERYONE + T + 16},
            {EVERYONE + T + 3, 0, -1, 1, FIVE + 16, EVERYONE + T + 3},
            {EVERYONE + T + 31 * 32 + 8, 0, -1, 1, FIVE + 16, EVERYONE + T + 31 * 32 + 8},
            {FIVE + T + 2, 1, FIVE, 0, FIVE, -1},
            {FIVE + send, 2, FIVE, 2, FIVE, -1},
            {7 * 2_048 + send, 0, -1, 1, FIVE + T, -1}};
        for (int[] row : rows) {
            stray(check, row);
        }
        notJustOneBehind(check);
        allStray(check);
        return check;
    }

    /** Word 0 looks like the command that a relayed terminal wants, but is data; word 1 is that command. */
    private static void notJustOneBehind(Check check) {
        TwinLines x = start();
        x.hold(6, 3, 0, 33);
        x.block(0, 0, SIX + T + 3 * 32 + 1);
        x.block(0, 1, SIX + T + 3 * 32 + 1);
        x.listens(5, 1, false);
        x.transfer(0, 0, 0, 5, 9, 2, 0, 0);
        x.close();
        x.alter(0, 3L << 4 | 3L << 2);
        x.alter(2, SYNC);
        x.run(1);
        check.due("two words behind: ERROR", x.told(5, 0), FIVE + T);
        check.due("two words behind: got", x.got(5, 9, 0), 0);
        check.due("two words behind: the other one answered", x.told(6, 6), 1);
    }

    private static void allStray(Check check) {
        TwinLines x = start();
        for (int k = 0; k < 32; k++) {
            x.block(0, k, k == 31 ? FIVE + T : SIX + T + 9);
            x.alter(k + 1, SYNC);
        }
        x.transfer(0, 0, 0, 5, 9, 32, 0, 0);
        x.close();
        check.due("33 commands", x.run(1), 1);
        check.due("5 takes the last one", x.told(5, 1), FIVE + T);
        check.due("6 takes its last one alone", x.told(6, 5), 1);
    }

    private static void stray(Check check, int[] row) {
        TwinLines x = start();
        x.hold(6, 3, 0, 33);
        x.block(0, 0, row[0]);
        // Nobody hears the second attempt, so that what came of the first one is seen.
        x.listens(5, 1, false);
        x.listens(6, 1, false);
        x.transfer(0, 0, 0, 5, 9, 1, 0, 0);
        x.close();
        x.alter(1, SYNC);
        boolean done = row[3] == 0;
        String name = "stray " + row[0];
        check.due(name + ": run", x.run(1), done ? 1 : 0);
        int again = done ? 0 : 2;
        check.due(name + ": words", x.count(1), 2 + row[1] + again);
        check.due(name + ": answer", row[1] == 0 ? -1 : x.heard(row[1] + again, 0), row[2]);
        check.due(name + ": status of 5", x.told(5, 0), row[4]);
        check.due(name + ": LAST of 6", x.told(6, 1), row[5]);
        boolean relayed = row[1] == 3 && row[4] == FIVE;
        check.due(name + ": got", x.got(5, 9, 0), relayed ? 33 : 0);
        // The same on both lines, so that WHY is that of such an attempt.
        TwinLines y = start();
        y.hold(6, 3, 0, 33);
        y.block(0, 0, row[0]);
        y.transfer(0, 0, 0, 5, 9, 1, 0, 0);
        y.close();
        y.alter(1, SYNC);
        y.alter(2 + row[1] + 1, SYNC);
        y.run(1);
        check.due(name + ": WHY", y.result(0, 3), row[3]);
        check.due(name + ": status", y.result(0, 4), row[2]);
    }

    /** The command itself is heard as another one. */
    private static Check alteredCommands() {
        Check check = new Check("altered commands");
        TwinLines x = start();
        x.transfer(0, 0, 0, 31, 1, 1, 0, 0);
        x.transfer(3, 0, 0, 5, 0, 0, 0, 0);
        x.close();
        x.block(0, 0, 66);
        // ALL becomes 31 - 8 - 2.
        x.alter(0, 3L << 30 | 3L << 26);
        check.due("run", x.run(1), 2);
        check.due("no terminal is 21", x.told(5, 5), 1);
        // ALL becomes 31 - 16 - 8 - 2, which answers without being awaited.
        x.alter(0, 3L << 32 | 3L << 30 | 3L << 26 | 3);
        check.due("run 2", x.run(1), 2);
        check.due("5 has answered", x.told(5, 6), 3);
        check.due("got", x.got(5, 1, 0), 66);
        check.due("not got by 6", x.got(6, 1, 0), 0);
        check.due("not looked at", x.result(0, 4), -1);
        check.due("but it took its time", x.result(0, 5), 1_000 + 40 + 28 + 4);
        return check;
    }
}
