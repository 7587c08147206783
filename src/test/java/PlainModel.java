import java.util.ArrayList;
import java.util.HashSet;
import java.util.List;
import java.util.Map;
import java.util.Set;
import java.util.TreeMap;

/**
 * The document once more, as plainly as it can be told: every word is said and heard as a text of
 * forty halves, and every row is gone through anew each time. RandomRunsTest holds TwinLines to it.
 */
final class PlainModel {
    private static final class Unit {
        int address;
        int gap;
        boolean[] listens = {true, true};
        boolean[] shut = {false, false};
        int[][] holds = new int[31][32];
        int[][] got = new int[31][32];
        Set<Integer> barredGet = new HashSet<>();
        Set<Integer> barredSend = new HashSet<>();
        Set<Integer> notes = new HashSet<>();
        Set<Integer> mutes = new HashSet<>();
        boolean error;
        boolean forAll;
        boolean hidden;
        Integer last;
        int vector;
        int check;
        int clock;
        int didCheck;
        int took;
        int answers;
        boolean muteNow;

        int status() {
            int bits = address * 2048 + (error ? 1024 : 0) + (forAll ? 16 : 0);
            for (int note : notes) {
                bits += note == 1 && hidden ? 0 : note;
            }
            return bits;
        }
    }

    private static final class Job {
        int kind;
        int from;
        int fromPlace;
        int to;
        int toPlace;
        int count;
        int block;
        int line;
        int[] result = {0, 0, 0, 0, -1, 0};
    }

    private static final class Said {
        String halves;
        int line;
        int who;
        int began;
    }

    private final Map<Integer, Unit> units = new TreeMap<>();
    private final int[][] blocks = new int[16][32];
    private final List<Job> jobs = new ArrayList<>();
    private final List<List<Job>> frames = new ArrayList<>();
    private List<Job> open = new ArrayList<>();
    private final List<Said> said = new ArrayList<>();
    private final Map<Integer, Long> altered = new TreeMap<>();
    private List<List<String>> answers = new ArrayList<>();
    private int time;
    private int retries = 1;
    private int period = 1000;
    private int framesRun;
    private int late;
    private int next;

    // ---- words

    static String spell(int sort, int bits) {
        StringBuilder text = new StringBuilder(sort == 1 ? "111000" : "000111");
        int ones = 0;
        for (int i = 15; i >= 0; i--) {
            boolean one = (bits / (1 << i)) % 2 == 1;
            ones += one ? 1 : 0;
            text.append(one ? "10" : "01");
        }
        return text.append(ones % 2 == 0 ? "10" : "01").toString();
    }

    static int sortOf(String halves) {
        String sync = halves.substring(0, 6);
        int sort = sync.equals("111000") ? 1 : sync.equals("000111") ? 0 : -1;
        return sort != -1 && spell(sort, rawBits(halves)).equals(halves) ? sort : -1;
    }

    static int bitsOf(String halves) {
        return sortOf(halves) == -1 ? -1 : rawBits(halves);
    }

    private static int rawBits(String halves) {
        int bits = 0;
        for (int i = 0; i < 16; i++) {
            bits = bits * 2 + (halves.charAt(6 + 2 * i) == '1' ? 1 : 0);
        }
        return bits;
    }

    static String text(long halves) {
        String text = Long.toBinaryString(halves);
        return "0".repeat(40 - text.length()) + text;
    }

    private static boolean justData(List<String> words, int count) {
        for (String word : words) {
            if (sortOf(word) != 0) {
                return false;
            }
        }
        return words.size() == count;
    }

    // ---- saying

    private String say(int sort, int bits, int line, int who) {
        long flip = altered.containsKey(said.size()) ? altered.remove(said.size()) : 0L;
        Said it = new Said();
        it.halves = text(Long.parseLong(spell(sort, bits), 2) ^ flip);
        it.line = line;
        it.who = who;
        it.began = time;
        said.add(it);
        time += 20;
        return it.halves;
    }

    private void sayAnswer(Unit unit, int line, int status, List<Integer> words) {
        if (unit.shut[line] || unit.muteNow) {
            return;
        }
        time += unit.gap;
        unit.answers++;
        List<String> heard = new ArrayList<>();
        heard.add(say(1, status, line, unit.address));
        for (int word : words) {
            heard.add(say(0, word, line, unit.address));
        }
        answers.add(heard);
    }

    // ---- a terminal and a message

    private void exchange(List<String> message, int line) {
        answers = new ArrayList<>();
        Map<Unit, Integer> relayed = new java.util.LinkedHashMap<>();
        for (Unit unit : units.values()) {
            if (!unit.listens[line]) {
                continue;
            }
            for (int i = message.size() - 1; i >= 0; i--) {
                int address = bitsOf(message.get(i)) / 2048;
                if (sortOf(message.get(i)) == 1 && (address == unit.address || address == 31)) {
                    unit.muteNow = unit.mutes.remove(unit.took);
                    unit.took++;
                    int other = takes(unit, bitsOf(message.get(i)), message.subList(i + 1, message.size()), line);
                    if (other >= 0) {
                        relayed.put(unit, other);
                    }
                    break;
                }
            }
        }
        List<String> answer = answers.isEmpty() ? null : answers.get(0);
        for (Map.Entry<Unit, Integer> entry : relayed.entrySet()) {
            Unit unit = entry.getKey();
            int count = (unit.last + 31) % 32 + 1;
            if (answer != null && sortOf(answer.get(0)) == 1 && bitsOf(answer.get(0)) / 2048 == entry.getValue()
                    && justData(answer.subList(1, answer.size()), count)) {
                gets(unit, answer.subList(1, answer.size()), line);
            } else {
                unit.error = true;
            }
        }
    }

    /** Answers the other address if it is relayed, else -1. */
    private int takes(Unit unit, int command, List<String> rest, int line) {
        boolean all = command / 2048 == 31;
        boolean t = command / 1024 % 2 == 1;
        int place = command / 32 % 32;
        int code = command % 32;
        int count = code == 0 ? 32 : code;
        boolean mode = place == 0 || place == 31;
        if (mode && t && (code == 2 || code == 18) && !all && rest.isEmpty()) {
            List<Integer> words = new ArrayList<>();
            if (code == 18) {
                words.add(unit.last == null ? 0 : unit.last);
            } else {
                unit.last = command;
            }
            sayAnswer(unit, line, unit.status(), words);
            return -1;
        }
        unit.last = command;
        unit.forAll = all;
        unit.error = false;
        if (!mode && !t && justData(rest, count)) {
            gets(unit, rest, line);
        } else if (!mode && !t && rest.size() == 1 && sortOf(rest.get(0)) == 1) {
            int other = bitsOf(rest.get(0));
            int otherPlace = other / 32 % 32;
            if (other / 1024 % 2 == 1 && other / 2048 != unit.address && other / 2048 != 31
                    && otherPlace != 0 && otherPlace != 31 && other % 32 == code) {
                return other / 2048;
            }
            unit.error = true;
        } else if (!mode && t && !all && rest.isEmpty()) {
            sends(unit, place, count, line);
        } else if (mode && t && rest.isEmpty() && (code == 1 || code >= 3 && code <= 8
                || !all && (code == 0 || code == 16 || code == 19))) {
            does(unit, code, -1, line);
        } else if (mode && !t && justData(rest, 1) && (code == 17 || code == 20 || code == 21)) {
            does(unit, code, bitsOf(rest.get(0)), line);
        } else {
            unit.error = true;
        }
        return -1;
    }

    private void gets(Unit unit, List<String> words, int line) {
        int place = unit.last / 32 % 32;
        if (unit.barredGet.contains(place)) {
            unit.error = true;
        } else if (!unit.notes.contains(8)) {
            for (int k = 0; k < words.size(); k++) {
                unit.got[place][k] = bitsOf(words.get(k));
            }
        }
        if (!unit.forAll) {
            sayAnswer(unit, line, unit.status(), new ArrayList<>());
        }
    }

    private void sends(Unit unit, int place, int count, int line) {
        List<Integer> words = new ArrayList<>();
        if (unit.barredSend.contains(place)) {
            unit.error = true;
        } else if (!unit.notes.contains(8)) {
            for (int k = 0; k < count; k++) {
                words.add(unit.holds[place][k]);
            }
        }
        sayAnswer(unit, line, unit.status(), words);
    }

    private void does(Unit unit, int code, int word, int line) {
        List<Integer> words = new ArrayList<>();
        boolean busy = unit.notes.contains(8);
        if (!busy) {
            doesNow(unit, code, word, line);
            if (code == 16) {
                words.add(unit.vector);
            }
            if (code == 19) {
                words.add(unit.check);
            }
        }
        if (!unit.forAll) {
            sayAnswer(unit, line, unit.status(), words);
        }
        if (!busy && code == 16) {
            unit.notes.remove(256);
        }
    }

    private void doesNow(Unit unit, int code, int word, int line) {
        int other = 1 - line;
        if (code == 1) {
            unit.clock = 0;
        } else if (code == 3) {
            unit.didCheck++;
            unit.check = (16 * unit.didCheck + (unit.notes.contains(1) ? 1 : 0) + (unit.shut[0] ? 2 : 0)
                    + (unit.shut[1] ? 4 : 0)) % 65536;
        } else if (code == 4 || code == 20 && word == other) {
            unit.shut[other] = true;
        } else if (code == 5 || code == 21 && word == other) {
            unit.shut[other] = false;
        } else if (code == 6) {
            unit.hidden = true;
        } else if (code == 7) {
            unit.hidden = false;
        } else if (code == 8) {
            unit.shut = new boolean[2];
            unit.hidden = false;
            unit.check = 0;
            unit.clock = 0;
        } else if (code == 17) {
            unit.clock = word;
        }
    }

    // ---- the controller

    private void attempt(Job job, int line) {
        List<String> message = new ArrayList<>();
        int code = job.toPlace;
        boolean wordTold = job.kind == 3 && (code == 17 || code == 20 || code == 21);
        boolean wordSent = job.kind == 3 && (code == 16 || code == 18 || code == 19);
        if (job.kind == 0 || job.kind == 2) {
            message.add(say(1, job.to * 2048 + job.toPlace * 32 + job.count % 32, line, 32));
        }
        if (job.kind == 1 || job.kind == 2) {
            message.add(say(1, job.from * 2048 + 1024 + job.fromPlace * 32 + job.count % 32, line, 32));
        }
        if (job.kind == 3) {
            message.add(say(1, job.to * 2048 + (wordTold ? 0 : 1024) + code, line, 32));
        }
        for (int k = 0; k < (job.kind == 0 ? job.count : wordTold ? 1 : 0); k++) {
            message.add(say(0, blocks[job.block][k], line, 32));
        }
        exchange(message, line);
        List<int[]> awaited = new ArrayList<>();
        if (job.kind == 1 || job.kind == 2) {
            awaited.add(new int[] {job.from, job.count});
        }
        if (job.kind != 1 && job.to != 31) {
            awaited.add(new int[] {job.to, wordSent ? 1 : 0});
        }
        int why = 0;
        int status = -1;
        boolean missing = false;
        for (int i = 0; i < awaited.size(); i++) {
            int flaw = flawOf(i, awaited.get(i));
            why = why == 0 ? flaw : why;
            if (i < answers.size()) {
                String first = answers.get(i).get(0);
                status = sortOf(first) == 1 ? bitsOf(first) : -1;
            } else {
                missing = true;
            }
        }
        time += (missing ? 14 : 0) + 4;
        if (why == 0 && (job.kind == 1 || wordSent)) {
            for (int k = 1; k < answers.get(0).size(); k++) {
                blocks[job.block][k - 1] = bitsOf(answers.get(0).get(k));
            }
        }
        job.result = new int[] {why == 0 ? 1 : 2, job.result[1] + 1, line, why, status, time};
    }

    private int flawOf(int i, int[] awaited) {
        if (i >= answers.size()) {
            return 1;
        }
        List<String> answer = answers.get(i);
        int bits = bitsOf(answer.get(0));
        if (sortOf(answer.get(0)) != 1) {
            return 2;
        }
        if (bits / 2048 != awaited[0]) {
            return 3;
        }
        if (bits / 1024 % 2 == 1 || bits / 8 % 2 == 1) {
            return 4;
        }
        return justData(answer.subList(1, answer.size()), awaited[1]) ? 0 : 2;
    }

    // ---- the face

    int terminal(int address, int gap) {
        if (address < 0 || address > 30 || gap < 4 || gap > 12 || units.containsKey(address)) {
            return -1;
        }
        Unit unit = new Unit();
        unit.address = address;
        unit.gap = gap;
        units.put(address, unit);
        return units.size();
    }

    int listens(int address, int line, boolean on) {
        Unit unit = units.get(address);
        if (unit == null || line < 0 || line > 1) {
            return -1;
        }
        int was = unit.listens[line] ? 1 : 0;
        unit.listens[line] = on;
        return was;
    }

    int hold(int address, int place, int k, int word) {
        Unit unit = units.get(address);
        if (unit == null || place < 1 || place > 30 || k < 0 || k > 31 || word < 0 || word > 65535) {
            return -1;
        }
        int was = unit.holds[place][k];
        unit.holds[place][k] = word;
        return was;
    }

    int got(int address, int place, int k) {
        Unit unit = units.get(address);
        return unit == null || place < 1 || place > 30 || k < 0 || k > 31 ? -1 : unit.got[place][k];
    }

    int note(int address, int which, boolean on) {
        Unit unit = units.get(address);
        if (unit == null || which != 256 && which != 8 && which != 4 && which != 1) {
            return -1;
        }
        return change(unit.notes, which, on);
    }

    int vector(int address, int word) {
        Unit unit = units.get(address);
        if (unit == null || word < 0 || word > 65535) {
            return -1;
        }
        int was = unit.vector;
        unit.vector = word;
        return was;
    }

    int bar(int address, boolean t, int place, boolean on) {
        Unit unit = units.get(address);
        return unit == null || place < 1 || place > 30 ? -1
                : change(t ? unit.barredSend : unit.barredGet, place, on);
    }

    private static int change(Set<Integer> set, int what, boolean on) {
        int was = set.contains(what) ? 1 : 0;
        if (on) {
            set.add(what);
        } else {
            set.remove(what);
        }
        return was;
    }

    int block(int block, int k, int word) {
        if (block < 0 || block > 15 || k < 0 || k > 31 || word < -1 || word > 65535) {
            return -1;
        }
        int was = blocks[block][k];
        blocks[block][k] = word == -1 ? was : word;
        return was;
    }

    int transfer(int kind, int from, int fromPlace, int to, int toPlace, int count, int block, int line) {
        boolean toOk = to >= 0 && to <= 31 && toPlace >= 1 && toPlace <= 30;
        boolean fromOk = from >= 0 && from <= 30 && fromPlace >= 1 && fromPlace <= 30;
        boolean countOk = count >= 1 && count <= 32;
        boolean blockOk = block >= 0 && block <= 15;
        boolean one = toPlace >= 0 && toPlace <= 8 || toPlace >= 16 && toPlace <= 21;
        boolean all = toPlace == 1 || toPlace >= 3 && toPlace <= 8 || toPlace == 17 || toPlace == 20 || toPlace == 21;
        boolean ok = kind == 0 ? toOk && countOk && blockOk
                : kind == 1 ? fromOk && countOk && blockOk
                : kind == 2 ? fromOk && toOk && from != to && countOk
                : kind == 3 && blockOk && (to == 31 ? all : to >= 0 && to <= 30 && one);
        if (!ok || line < 0 || line > 1 || jobs.size() == 24) {
            return -1;
        }
        Job job = new Job();
        job.kind = kind;
        job.from = from;
        job.fromPlace = fromPlace;
        job.to = to;
        job.toPlace = toPlace;
        job.count = count;
        job.block = block;
        job.line = line;
        jobs.add(job);
        open.add(job);
        return jobs.size() - 1;
    }

    int close() {
        if (open.isEmpty() || frames.size() == 8) {
            return -1;
        }
        frames.add(open);
        open = new ArrayList<>();
        return frames.size() - 1;
    }

    boolean retries(int many) {
        boolean ok = many >= 0 && many <= 2;
        retries = ok ? many : retries;
        return ok;
    }

    boolean period(int time) {
        boolean ok = time >= 0 && time <= 100000;
        period = ok ? time : period;
        return ok;
    }

    int run(int many) {
        if (many < 1 || many > 8 || frames.isEmpty()) {
            return -1;
        }
        int done = 0;
        for (int i = 0; i < many; i++) {
            late += time > period * framesRun ? 1 : 0;
            time = Math.max(time, period * framesRun);
            for (Job job : frames.get(next)) {
                job.result[1] = 0;
                boolean fails = true;
                for (int line : new int[] {job.line, 1 - job.line}) {
                    for (int tries = 0; tries <= retries && fails; tries++) {
                        attempt(job, line);
                        fails = job.result[3] != 0;
                    }
                }
                done += fails ? 0 : 1;
            }
            framesRun++;
            next = (next + 1) % frames.size();
        }
        return done;
    }

    boolean alter(int ahead, long halves) {
        int number = said.size() + ahead;
        if (ahead < 0 || ahead > 5000 || halves < 1 || halves >= 1L << 40
                || altered.size() == 40 && !altered.containsKey(number)) {
            return false;
        }
        altered.put(number, halves);
        return true;
    }

    boolean mute(int address, int ahead) {
        Unit unit = units.get(address);
        if (unit == null || ahead < 0 || ahead > 500 || unit.mutes.size() == 20) {
            return false;
        }
        return unit.mutes.add(unit.took + ahead);
    }

    int result(int transfer, int what) {
        return transfer < 0 || transfer >= jobs.size() || what < 0 || what > 5 ? -1 : jobs.get(transfer).result[what];
    }

    int told(int address, int what) {
        Unit unit = units.get(address);
        if (unit == null || what < 0 || what > 7) {
            return -1;
        }
        int[] all = {unit.status(), unit.last == null ? -1 : unit.last, unit.clock, unit.check,
                (unit.shut[0] ? 1 : 0) + (unit.shut[1] ? 2 : 0), unit.took, unit.answers, unit.vector};
        return all[what];
    }

    int heard(int back, int what) {
        if (back < 1 || back > 64 || back > said.size() || what < 0 || what > 4) {
            return -1;
        }
        Said it = said.get(said.size() - back);
        int[] all = {bitsOf(it.halves), sortOf(it.halves), it.line, it.who, it.began};
        return all[what];
    }

    long halves(boolean command, int bits) {
        return bits < 0 || bits > 65535 ? -1 : Long.parseLong(spell(command ? 1 : 0, bits), 2);
    }

    int word(long halves) {
        if (halves < 0 || halves >= 1L << 40) {
            return -1;
        }
        String text = text(halves);
        return sortOf(text) == -1 ? -1 : 65536 * sortOf(text) + bitsOf(text);
    }

    int count(int what) {
        int[] all = {time, said.size(), framesRun, late, jobs.size(), frames.size(), altered.size(), next};
        return what < 0 || what > 7 ? -1 : all[what];
    }
}
