/** Promises 1 to 8, 16 and 18: a new object, and what is told to terminals and asked of them. */
public final class TerminalPromisesTest {
    private static final int[] NO_TERMINALS = {Integer.MIN_VALUE, -1, 6, 31, 32, Integer.MAX_VALUE};
    private static final int[] NO_PLACES = {Integer.MIN_VALUE, -1, 0, 31, 32, Integer.MAX_VALUE};
    private static final int[] NO_INDICES = {Integer.MIN_VALUE, -1, 32, Integer.MAX_VALUE};
    private static final int[] NO_WORDS = {Integer.MIN_VALUE, -1, 65_536, Integer.MAX_VALUE};

    public static void main(String[] args) {
        Check.end(newObject(), terminal(), listens(), hold(), got(), note(), vector(), bar(), mute(), told());
    }

    private static TwinLines withFive() {
        TwinLines x = new TwinLines();
        x.terminal(5, 8);
        return x;
    }

    private static Check newObject() {
        Check check = new Check("promise 1");
        TwinLines x = new TwinLines();
        for (int what = 0; what <= 7; what++) {
            check.due("count(" + what + ")", x.count(what), 0);
        }
        for (int address = 0; address <= 30; address++) {
            check.due("told(" + address + ", 0)", x.told(address, 0), -1);
        }
        check.due("result(0, 0)", x.result(0, 0), -1);
        check.due("heard(1, 0)", x.heard(1, 0), -1);
        check.due("block(15, 31, -1)", x.block(15, 31, -1), 0);
        x.transfer(1, 7, 1, 0, 0, 1, 0, 0);
        x.close();
        check.due("run(2)", x.run(2), 0);
        check.due("attempts with RETRIES 1", x.result(0, 1), 4);
        check.due("the second frame begins at PERIOD 1000", x.count(0), 1_000 + 4 * 38);
        return check;
    }

    private static Check terminal() {
        Check check = new Check("promise 2");
        TwinLines x = new TwinLines();
        for (int address = 30; address >= 0; address--) {
            check.due("terminal(" + address + ", 3)", x.terminal(address, 3), -1);
            check.due("terminal(" + address + ", 13)", x.terminal(address, 13), -1);
            check.due("terminal(" + address + ")", x.terminal(address, 4 + address % 9), 31 - address);
            check.due("terminal(" + address + ") again", x.terminal(address, 4), -1);
            check.due("its status", x.told(address, 0), address * 2_048);
        }
        for (int address : new int[] {-1, 31, 32, Integer.MIN_VALUE, Integer.MAX_VALUE}) {
            check.due("terminal(" + address + ", 4)", x.terminal(address, 4), -1);
        }
        check.due("listens at first on 0", x.listens(17, 0, true), 1);
        check.due("listens at first on 1", x.listens(17, 1, true), 1);
        for (int gap = 4; gap <= 12; gap += 4) {
            TwinLines y = new TwinLines();
            y.terminal(1, gap);
            y.transfer(3, 0, 0, 1, 0, 0, 0, 0);
            y.close();
            y.run(1);
            check.due("time with gap " + gap, y.count(0), 20 + gap + 20 + 4);
        }
        return check;
    }

    private static Check listens() {
        Check check = new Check("promise 3");
        TwinLines x = withFive();
        x.retries(0);
        x.transfer(3, 0, 0, 5, 0, 0, 0, 0);
        x.close();
        check.due("off on 0", x.listens(5, 0, false), 1);
        check.due("off on 0 again", x.listens(5, 0, false), 0);
        check.due("run", x.run(1), 1);
        check.due("it took what was said on 1", x.result(0, 2), 1);
        check.due("commands taken", x.told(5, 5), 1);
        check.due("off on 1", x.listens(5, 1, false), 1);
        check.due("run on neither", x.run(1), 0);
        check.due("commands taken then", x.told(5, 5), 1);
        check.due("on on 0", x.listens(5, 0, true), 0);
        check.due("run on 0", x.run(1), 1);
        check.due("its line", x.result(0, 2), 0);
        for (int address : NO_TERMINALS) {
            check.due("listens(" + address + ")", x.listens(address, 0, true), -1);
        }
        for (int line : new int[] {-1, 2, 32, Integer.MIN_VALUE, Integer.MAX_VALUE}) {
            check.due("listens on " + line, x.listens(5, line, true), -1);
        }
        check.due("nothing changed on 1", x.listens(5, 1, false), 0);
        return check;
    }

    private static Check hold() {
        Check check = new Check("promise 4");
        TwinLines x = withFive();
        for (int place = 1; place <= 30; place++) {
            for (int k = 0; k <= 31; k += 31) {
                check.due("hold first", x.hold(5, place, k, place * 100 + k), 0);
            }
        }
        for (int place = 1; place <= 30; place++) {
            for (int k = 0; k <= 31; k += 31) {
                check.due("hold then", x.hold(5, place, k, 65_535), place * 100 + k);
                check.due("hold last", x.hold(5, place, k, 0), 65_535);
                check.due("got is another row", x.got(5, place, k), 0);
            }
        }
        x.hold(5, 2, 3, 77);
        for (int address : NO_TERMINALS) {
            check.due("hold of " + address, x.hold(address, 2, 3, 1), -1);
        }
        for (int place : NO_PLACES) {
            check.due("hold at " + place, x.hold(5, place, 3, 1), -1);
        }
        for (int k : NO_INDICES) {
            check.due("hold index " + k, x.hold(5, 2, k, 1), -1);
        }
        for (int word : NO_WORDS) {
            check.due("hold word " + word, x.hold(5, 2, 3, word), -1);
        }
        check.due("nothing changed", x.hold(5, 2, 3, 78), 77);
        x.transfer(1, 5, 2, 0, 0, 4, 1, 0);
        x.close();
        check.due("run", x.run(1), 1);
        check.due("what it holds is sent", x.block(1, 3, -1), 78);
        return check;
    }

    private static Check got() {
        Check check = new Check("promise 5");
        TwinLines x = withFive();
        for (int k = 0; k < 32; k++) {
            x.block(2, k, 1_000 + k);
        }
        x.transfer(0, 0, 0, 5, 30, 32, 2, 0);
        x.transfer(0, 0, 0, 31, 1, 2, 2, 0);
        x.close();
        check.due("run", x.run(1), 2);
        for (int k = 0; k < 32; k++) {
            check.due("got(5, 30, " + k + ")", x.got(5, 30, k), 1_000 + k);
            check.due("got(5, 1, " + k + ")", x.got(5, 1, k), k < 2 ? 1_000 + k : 0);
            check.due("hold is another row", x.hold(5, 30, k, 0), 0);
        }
        for (int address : NO_TERMINALS) {
            check.due("got of " + address, x.got(address, 30, 0), -1);
        }
        for (int place : NO_PLACES) {
            check.due("got at " + place, x.got(5, place, 0), -1);
        }
        for (int k : NO_INDICES) {
            check.due("got index " + k, x.got(5, 30, k), -1);
        }
        return check;
    }

    private static Check note() {
        Check check = new Check("promise 6");
        TwinLines x = withFive();
        int status = 5 * 2_048;
        for (int which : new int[] {256, 8, 4, 1}) {
            check.due("note off", x.note(5, which, false), 0);
            check.due("note on", x.note(5, which, true), 0);
            status += which;
            check.due("status with " + which, x.told(5, 0), status);
            check.due("note on again", x.note(5, which, true), 1);
        }
        for (int which : new int[] {Integer.MIN_VALUE, -1, 0, 2, 3, 5, 16, 257, 512, 1_024, 2_048}) {
            check.due("note " + which, x.note(5, which, true), -1);
            check.due("status then", x.told(5, 0), status);
        }
        for (int address : NO_TERMINALS) {
            check.due("note of " + address, x.note(address, 256, true), -1);
        }
        check.due("note off then", x.note(5, 8, false), 1);
        check.due("status last", x.told(5, 0), status - 8);
        return check;
    }

    private static Check vector() {
        Check check = new Check("promise 7");
        TwinLines x = withFive();
        check.due("vector first", x.vector(5, 65_535), 0);
        check.due("vector then", x.vector(5, 0), 65_535);
        check.due("vector last", x.vector(5, 12), 0);
        for (int word : NO_WORDS) {
            check.due("vector " + word, x.vector(5, word), -1);
        }
        for (int address : NO_TERMINALS) {
            check.due("vector of " + address, x.vector(address, 1), -1);
        }
        check.due("nothing changed", x.told(5, 7), 12);
        return check;
    }

    private static Check bar() {
        Check check = new Check("promise 8");
        TwinLines x = withFive();
        x.retries(0);
        x.transfer(0, 0, 0, 5, 3, 1, 0, 0);
        x.transfer(1, 5, 3, 0, 0, 1, 1, 0);
        x.transfer(0, 0, 0, 5, 4, 1, 0, 0);
        x.close();
        x.block(0, 0, 9);
        check.due("bar to get", x.bar(5, false, 3, true), 0);
        check.due("bar to get again", x.bar(5, false, 3, true), 1);
        check.due("run", x.run(1), 2);
        check.due("why", x.result(0, 3), 4);
        check.due("its status has ERROR", x.result(0, 4), 5 * 2_048 + 1_024);
        check.due("not got", x.got(5, 3, 0), 0);
        check.due("got at another place", x.got(5, 4, 0), 9);
        check.due("bar to send", x.bar(5, true, 3, true), 0);
        check.due("to get no more", x.bar(5, false, 3, false), 1);
        check.due("run then", x.run(1), 2);
        check.due("why of IN", x.result(1, 3), 4);
        check.due("words said, a barred one's status alone", x.count(1), 2 * 3 + 3 + 3 + 3 + 2 * 2 + 3);
        check.due("got now", x.got(5, 3, 0), 9);
        for (int place = 1; place <= 30; place++) {
            check.due("barred for T at " + place, x.bar(5, true, place, true), place == 3 ? 1 : 0);
            check.due("barred without T at " + place, x.bar(5, false, place, false), 0);
        }
        for (int place : NO_PLACES) {
            check.due("bar at " + place, x.bar(5, true, place, true), -1);
        }
        for (int address : NO_TERMINALS) {
            check.due("bar of " + address, x.bar(address, true, 1, true), -1);
        }
        return check;
    }

    private static Check mute() {
        Check check = new Check("promise 16");
        TwinLines x = withFive();
        x.retries(0);
        x.transfer(3, 0, 0, 5, 0, 0, 0, 0);
        x.close();
        check.due("the second one", x.mute(5, 1), true);
        check.due("told again", x.mute(5, 1), false);
        check.due("run 0", x.run(1), 1);
        check.due("line of command 0", x.result(0, 2), 0);
        check.due("told: it is 0 now", x.mute(5, 0), false);
        check.due("run 1", x.run(1), 1);
        check.due("line of command 2", x.result(0, 2), 1);
        check.due("taken", x.told(5, 5), 3);
        check.due("answers", x.told(5, 6), 2);
        check.due("time: 14 for what is not said", x.count(0), 1_000 + 20 + 14 + 4 + 20 + 8 + 20 + 4);
        for (int ahead : new int[] {Integer.MIN_VALUE, -1, 501, Integer.MAX_VALUE}) {
            check.due("mute " + ahead, x.mute(5, ahead), false);
        }
        for (int address : NO_TERMINALS) {
            check.due("mute of " + address, x.mute(address, 0), false);
        }
        check.due("the most", x.mute(5, 500), true);
        for (int ahead = 19; ahead >= 1; ahead--) {
            check.due("mute many", x.mute(5, ahead), true);
        }
        check.due("20 are to come", x.mute(5, 0), false);
        check.due("run 3", x.run(1), 1);
        check.due("20 are to come still", x.mute(5, 100), false);
        check.due("run 4 and 5", x.run(1), 0);
        check.due("room for 2", x.mute(5, 100), true);
        check.due("room for 1", x.mute(5, 101), true);
        check.due("room for none", x.mute(5, 102), false);
        x.terminal(6, 4);
        check.due("another terminal", x.mute(6, 0), true);
        return check;
    }

    private static Check told() {
        Check check = new Check("promise 18");
        TwinLines x = withFive();
        int[] first = {5 * 2_048, -1, 0, 0, 0, 0, 0, 0};
        for (int what = 0; what <= 7; what++) {
            check.due("told at first " + what, x.told(5, what), first[what]);
        }
        x.vector(5, 4_321);
        x.block(0, 0, 99);
        x.transfer(3, 0, 0, 5, 17, 0, 0, 0);
        x.transfer(3, 0, 0, 5, 4, 0, 0, 0);
        x.transfer(3, 0, 0, 5, 3, 0, 0, 0);
        x.transfer(3, 0, 0, 31, 6, 0, 0, 0);
        x.close();
        check.due("run", x.run(1), 4);
        int[] then = {5 * 2_048 + 16, 31 * 2_048 + 1_024 + 6, 99, 16 + 4, 2, 4, 3, 4_321};
        for (int what = 0; what <= 7; what++) {
            check.due("told then " + what, x.told(5, what), then[what]);
        }
        for (int what : new int[] {Integer.MIN_VALUE, -1, 8, Integer.MAX_VALUE}) {
            check.due("told " + what, x.told(5, what), -1);
        }
        for (int address : NO_TERMINALS) {
            check.due("told of " + address, x.told(address, 0), -1);
        }
        return check;
    }
}
