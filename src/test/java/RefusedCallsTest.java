import java.util.ArrayList;
import java.util.Arrays;
import java.util.LinkedHashMap;
import java.util.List;
import java.util.Map;

/**
 * The document's 'BAD: there is no such terminal, place, word, block, transfer, or a number is none told
 * here; nothing changes.': every call that is refused answers so, and behind it the object answers all
 * that can be asked as one that was not called. Three objects are tried: a new one, one in the midst of
 * its work, and one in which all that can be full is full.
 */
public final class RefusedCallsTest {
    private interface Call {
        long on(TwinLines x);
    }

    private static final int LEAST = Integer.MIN_VALUE;
    private static final int MOST = Integer.MAX_VALUE;

    private static final Map<String, Call> ALWAYS = new LinkedHashMap<>();
    private static final Map<String, Call> NEW = new LinkedHashMap<>();
    private static final Map<String, Call> MIDST = new LinkedHashMap<>();
    private static final Map<String, Call> FULL = new LinkedHashMap<>();

    public static void main(String[] args) {
        refusedAlways();
        refusedTransfers();
        refusedNew();
        refusedInTheMidst();
        refusedWhenFull();
        Check fresh = new Check("a new object");
        Check midst = new Check("an object in the midst of its work");
        Check full = new Check("an object that is full");
        tryAll(fresh, 0, ALWAYS, NEW);
        tryAll(midst, 1, ALWAYS, MIDST);
        tryAll(full, 2, ALWAYS, MIDST, FULL);
        Check.end(fresh, midst, full);
    }

    private static void refusedAlways() {
        for (int no : new int[] {LEAST, -1, 31, 32, 7, MOST}) {
            if (no != 7) {
                ALWAYS.put("terminal(" + no + ", 4)", x -> x.terminal(no, 4));
            }
            ALWAYS.put("listens(" + no + ", 0, true)", x -> x.listens(no, 0, true));
            ALWAYS.put("hold(" + no + ", 1, 0, 1)", x -> x.hold(no, 1, 0, 1));
            ALWAYS.put("got(" + no + ", 1, 0)", x -> x.got(no, 1, 0));
            ALWAYS.put("note(" + no + ", 4, true)", x -> x.note(no, 4, true));
            ALWAYS.put("vector(" + no + ", 1)", x -> x.vector(no, 1));
            ALWAYS.put("bar(" + no + ", true, 1, true)", x -> x.bar(no, true, 1, true));
            ALWAYS.put("mute(" + no + ", 0)", x -> x.mute(no, 0) ? 1 : -1);
            ALWAYS.put("told(" + no + ", 0)", x -> x.told(no, 0));
        }
        for (int no : new int[] {LEAST, -1, 0, 3, 13, MOST}) {
            ALWAYS.put("terminal(7, " + no + ")", x -> x.terminal(7, no));
        }
        for (int no : new int[] {LEAST, -1, 32, MOST}) {
            ALWAYS.put("block(0, " + no + ", 1)", x -> x.block(0, no, 1));
            ALWAYS.put("block(" + (no == 32 ? 16 : no) + ", 0, 1)", x -> x.block(no == 32 ? 16 : no, 0, 1));
            ALWAYS.put("retries(" + (no == 32 ? 3 : no) + ")", x -> x.retries(no == 32 ? 3 : no) ? 1 : -1);
            ALWAYS.put("period(" + (no == 32 ? 100_001 : no) + ")", x -> x.period(no == 32 ? 100_001 : no) ? 1 : -1);
            ALWAYS.put("alter(" + (no == 32 ? 5_001 : no) + ", 1)", x -> x.alter(no == 32 ? 5_001 : no, 1) ? 1 : -1);
            ALWAYS.put("count(" + (no == 32 ? 8 : no) + ")", x -> x.count(no == 32 ? 8 : no));
            ALWAYS.put("run(" + (no == 32 ? 9 : no) + ")", x -> x.run(no == 32 ? 9 : no));
            ALWAYS.put("halves(" + (no == 32 ? 65_536 : no) + ")", x -> x.halves(true, no == 32 ? 65_536 : no));
        }
        ALWAYS.put("run(0)", x -> x.run(0));
        for (int no : new int[] {LEAST, -2, 65_536, MOST}) {
            ALWAYS.put("block(0, 0, " + no + ")", x -> x.block(0, 0, no));
        }
        for (int no : new int[] {LEAST, -1, 0, 65, MOST}) {
            ALWAYS.put("heard(" + no + ", 0)", x -> x.heard(no, 0));
        }
        for (long no : new long[] {Long.MIN_VALUE, -1, 0, 1L << 40, Long.MAX_VALUE}) {
            ALWAYS.put("alter(0, " + no + ")", x -> x.alter(0, no) ? 1 : -1);
            ALWAYS.put("word(" + no + ")", x -> x.word(no));
        }
    }

    /** One number of a good transfer is not good; what a kind does not have is left out. */
    private static void refusedTransfers() {
        int[][] good = {{0, 0, 0, 5, 1, 1, 0, 0}, {1, 5, 1, 0, 0, 1, 0, 0}, {2, 5, 1, 6, 1, 1, 0, 0}, {3, 0, 0, 5, 0, 0, 0, 0},
            {3, 0, 0, 31, 1, 0, 0, 0}};
        int[][] bad = {{-1, 4, LEAST, MOST}, {-1, 31, 32, LEAST, MOST}, {-1, 0, 31, LEAST, MOST}, {-1, 32, LEAST, MOST},
            {-1, 0, 31, LEAST, MOST}, {-1, 0, 33, LEAST, MOST}, {-1, 16, LEAST, MOST}, {-1, 2, LEAST, MOST}};
        int[] badCodes = {LEAST, -1, 9, 15, 22, 31, 32, 33, 64, MOST};
        int[] badCodesToAll = {LEAST, -1, 0, 2, 9, 15, 16, 18, 19, 22, 31, 33, 35, MOST};
        boolean[][] has = {{true, false, false, true, true, true, true, true},
            {true, true, true, false, false, true, true, true}, {true, true, true, true, true, true, false, true},
            {true, false, false, true, true, false, true, true}};
        for (int[] row : good) {
            for (int at = 0; at < 8; at++) {
                boolean code = row[0] == 3 && at == 4;
                for (int no : code ? row[3] == 31 ? badCodesToAll : badCodes : bad[at]) {
                    if (has[row[0]][at]) {
                        refuseTransfer(row, at, no);
                    }
                }
            }
        }
        refuseTransfer(good[2], 3, 5);
        refuseTransfer(good[2], 1, 6);
    }

    private static void refuseTransfer(int[] good, int at, int no) {
        int[] t = good.clone();
        t[at] = no;
        ALWAYS.put("transfer" + Arrays.toString(t), x -> tell(x, t));
    }

    private static int tell(TwinLines x, int... t) {
        return x.transfer(t[0], t[1], t[2], t[3], t[4], t[5], t[6], t[7]);
    }

    private static void refusedNew() {
        NEW.put("close() of nothing", x -> x.close());
        NEW.put("run(1) without frames", x -> x.run(1));
        NEW.put("run(8) without frames", x -> x.run(8));
        NEW.put("result(0, 0) without transfers", x -> x.result(0, 0));
        for (int what = 0; what <= 4; what++) {
            int no = what;
            NEW.put("heard(1, " + what + ") before any word", x -> x.heard(1, no));
        }
        NEW.put("told(5, 0) without terminals", x -> x.told(5, 0));
    }

    private static void refusedInTheMidst() {
        for (int no : new int[] {LEAST, -1, 2, 31, 32, MOST}) {
            MIDST.put("listens(5, " + no + ", ..)", x -> x.listens(5, no, no != -1));
        }
        for (int no : new int[] {LEAST, -1, 0, 31, 32, MOST}) {
            MIDST.put("hold(5, " + no + ", 0, 1)", x -> x.hold(5, no, 0, 1));
            MIDST.put("got(5, " + no + ", 0)", x -> x.got(5, no, 0));
            MIDST.put("bar(5, true, " + no + ", true)", x -> x.bar(5, true, no, true));
            MIDST.put("bar(5, false, " + no + ", true)", x -> x.bar(5, false, no, true));
        }
        for (int no : new int[] {LEAST, -1, 32, MOST}) {
            MIDST.put("hold(5, 1, " + no + ", 1)", x -> x.hold(5, 1, no, 1));
            MIDST.put("hold(5, 30, " + no + ", 1)", x -> x.hold(5, 30, no, 1));
            MIDST.put("got(5, 1, " + no + ")", x -> x.got(5, 1, no));
        }
        for (int no : new int[] {LEAST, -1, 65_536, MOST}) {
            MIDST.put("hold(5, 1, 0, " + no + ")", x -> x.hold(5, 1, 0, no));
            MIDST.put("vector(5, " + no + ")", x -> x.vector(5, no));
        }
        for (int no : new int[] {LEAST, -256, -1, 0, 2, 3, 5, 9, 12, 16, 32, 255, 257, 260, 512, 1_024, 2_048, MOST}) {
            MIDST.put("note(5, " + no + ", true)", x -> x.note(5, no, true));
            MIDST.put("note(5, " + no + ", false)", x -> x.note(5, no, false));
        }
        for (int no : new int[] {LEAST, -1, 501, MOST}) {
            MIDST.put("mute(5, " + no + ")", x -> x.mute(5, no) ? 1 : -1);
        }
        for (int no : new int[] {LEAST, -1, 8, MOST}) {
            MIDST.put("told(5, " + no + ")", x -> x.told(5, no));
            MIDST.put("result(0, " + (no == 8 ? 6 : no) + ")", x -> x.result(0, no == 8 ? 6 : no));
            MIDST.put("result(" + (no == 8 ? 24 : no) + ", 0)", x -> x.result(no == 8 ? 24 : no, 0));
            MIDST.put("heard(1, " + (no == 8 ? 5 : no) + ")", x -> x.heard(1, no == 8 ? 5 : no));
        }
        for (int gap = 4; gap <= 12; gap++) {
            int no = gap;
            MIDST.put("terminal(5, " + gap + ") again", x -> x.terminal(5, no));
        }
        MIDST.put("mute(5, 2) again", x -> x.mute(5, 2) ? 1 : -1);
        MIDST.put("a word more than were said", x -> x.count(1) < 64 ? x.heard(x.count(1) + 1, 0) : x.heard(65, 0));
    }

    private static void refusedWhenFull() {
        int[][] good = {{0, 0, 0, 5, 1, 1, 0, 0}, {1, 5, 1, 0, 0, 1, 0, 0}, {2, 5, 1, 6, 1, 1, 0, 0}, {3, 0, 0, 5, 0, 0, 0, 0}};
        for (int[] row : good) {
            FULL.put("a 25th transfer of kind " + row[0], x -> tell(x, row));
        }
        FULL.put("a 9th frame", x -> x.close());
        FULL.put("a 41st word ALTERED", x -> x.alter(3, 1) ? 1 : -1);
        FULL.put("a 41st word ALTERED behind all others", x -> x.alter(5_000, 1) ? 1 : -1);
        FULL.put("a 21st command MUTE", x -> x.mute(5, 0) ? 1 : -1);
        FULL.put("a 21st command MUTE behind all others", x -> x.mute(5, 500) ? 1 : -1);
    }

    /** 0 a new one, 1 one in the midst of its work, 2 one that is full. */
    private static TwinLines make(int stage) {
        TwinLines x = new TwinLines();
        if (stage == 0) {
            return x;
        }
        x.terminal(5, 8);
        x.terminal(6, 4);
        x.hold(5, 1, 0, 1_111);
        x.hold(5, 30, 31, 2_222);
        x.block(0, 0, 77);
        x.block(15, 31, 78);
        x.vector(5, 9);
        x.note(5, 4, true);
        x.bar(6, false, 2, true);
        x.listens(6, 1, false);
        x.retries(2);
        x.period(700);
        int frames = stage == 1 ? 2 : 8;
        for (int i = 0; i < frames; i++) {
            tell(x, 0, 0, 0, 5, 1, 1, 0, i % 2);
            tell(x, i % 2 == 0 ? 1 : 2, 5, 1, 6, 1, 2, 3, 0);
            x.close();
        }
        x.run(1);
        for (int i = frames * 2; i < (stage == 1 ? frames * 2 + 1 : 24); i++) {
            tell(x, 3, 0, 0, 5, 3, 0, 0, 0);
        }
        x.mute(5, 2);
        x.alter(2, 3L << 2 | 3);
        for (int i = 1; i < 40 && stage == 2; i++) {
            x.alter(10 * i, 1);
        }
        for (int i = 1; i < 20 && stage == 2; i++) {
            x.mute(5, 10 * i);
        }
        return x;
    }

    @SafeVarargs
    private static void tryAll(Check check, int stage, Map<String, Call>... rows) {
        List<Long> due = observe(make(stage));
        for (Map<String, Call> row : rows) {
            for (Map.Entry<String, Call> entry : row.entrySet()) {
                TwinLines x = make(stage);
                check.due(entry.getKey(), entry.getValue().on(x), -1);
                check.due("nothing changes by " + entry.getKey(), observe(x).equals(due), true);
            }
        }
    }

    /** All that can be asked, and then what comes of further work. */
    private static List<Long> observe(TwinLines x) {
        List<Long> seen = new ArrayList<>();
        ask(x, seen);
        for (int address : new int[] {5, 6}) {
            for (int line = 0; line <= 1; line++) {
                long was = x.listens(address, line, true);
                seen.add(was);
                x.listens(address, line, was != 0);
            }
            for (int place = 1; place <= 30; place += place == 1 ? 1 : 28) {
                for (int t = 0; t <= 1; t++) {
                    long was = x.bar(address, t == 1, place, true);
                    seen.add(was);
                    x.bar(address, t == 1, place, was != 0);
                }
            }
        }
        seen.add((long) x.run(2));
        ask(x, seen);
        for (int address = 7; address <= 8; address++) {
            seen.add((long) x.terminal(address, 4));
        }
        seen.add((long) x.close());
        seen.add((long) tell(x, 3, 0, 0, 31, 1, 0, 0, 0));
        seen.add((long) x.close());
        seen.add((long) x.run(1));
        int altered = 0;
        while (altered < 41 && x.alter(1_000 + altered, 1)) {
            altered++;
        }
        int mutes = 0;
        while (mutes < 21 && x.mute(5, 300 + mutes)) {
            mutes++;
        }
        seen.add((long) altered);
        seen.add((long) mutes);
        seen.add((long) x.count(0));
        seen.add((long) x.hold(5, 1, 0, 0));
        seen.add((long) x.hold(5, 30, 31, 0));
        return seen;
    }

    private static void ask(TwinLines x, List<Long> seen) {
        for (int what = 0; what <= 7; what++) {
            seen.add((long) x.count(what));
            seen.add((long) x.told(5, what));
            seen.add((long) x.told(6, what));
        }
        for (int what = 0; what <= 5; what++) {
            seen.add((long) x.result(0, what));
            seen.add((long) x.result(2, what));
        }
        for (int back = 1; back <= 8; back++) {
            seen.add((long) x.heard(back, 0));
            seen.add((long) x.heard(back, 4));
        }
        seen.add((long) x.got(5, 1, 0));
        seen.add((long) x.got(5, 30, 31));
        seen.add((long) x.block(0, 0, -1));
        seen.add((long) x.block(15, 31, -1));
    }
}
