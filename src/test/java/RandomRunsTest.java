import java.util.Random;

/** Runs of up to 512 calls, drawn from fixed seeds, whose answers are those of the plain model. */
public final class RandomRunsTest {
    private static final int RUNS = 300;
    private static final int[] ADDRESSES = {0, 3, 5, 9, 30, 31};
    private static final int[] NOTES = {256, 8, 4, 1};
    private static final int[] ODD = {Integer.MIN_VALUE, -2, -1, 0, 1, 2, 31, 32, 33, 501, 5001, 65536, Integer.MAX_VALUE};

    private final Random random;
    private final TwinLines lines = new TwinLines();
    private final PlainModel model = new PlainModel();
    private final Check check;

    private RandomRunsTest(int seed, Check check) {
        random = new Random(seed);
        this.check = check;
    }

    public static void main(String[] args) {
        Check check = new Check("random runs");
        for (int seed = 0; seed < RUNS && check.wrong() == 0; seed++) {
            new RandomRunsTest(seed, check).play(512);
            if (check.wrong() != 0) {
                System.out.println("seed " + seed);
            }
        }
        Check.end(check);
    }

    private void play(int calls) {
        int before = calls / 4;
        for (int i = 0; i < calls && check.wrong() == 0; i++) {
            if (i < before && random.nextInt(4) != 0) {
                build();
            } else if (random.nextInt(3) == 0) {
                disturb();
            } else {
                ask();
            }
        }
    }

    private void build() {
        switch (random.nextInt(8)) {
            case 0: terminal(); break;
            case 1: hold(); break;
            case 2: block(); break;
            case 3: case 4: case 5: transfer(); break;
            case 6: if (random.nextInt(3) == 0) { close(); } break;
            default: note(); break;
        }
    }

    private void disturb() {
        switch (random.nextInt(12)) {
            case 0: listens(); break;
            case 1: note(); break;
            case 2: vector(); break;
            case 3: bar(); break;
            case 4: block(); break;
            case 5: hold(); break;
            case 6: retriesOrPeriod(); break;
            case 7: mute(); break;
            case 8: build(); break;
            default: alter(); break;
        }
    }

    private void ask() {
        int a = random.nextInt(32);
        int b = random.nextInt(9);
        int c = random.nextInt(34) - 1;
        switch (random.nextInt(12)) {
            case 0: case 1: case 2: run(); break;
            case 3: case 4: same("result " + a + " " + b, lines.result(a - 1, b), model.result(a - 1, b)); break;
            case 5: case 6: {
                int address = address();
                same("told " + address + " " + b, lines.told(address, b), model.told(address, b));
                break;
            }
            case 7: {
                int back = random.nextInt(67);
                same("heard " + back + " " + b, lines.heard(back, b - 1), model.heard(back, b - 1));
                break;
            }
            case 8: case 9: {
                int address = address();
                int place = place();
                same("got " + address + " " + place + " " + c, lines.got(address, place, c), model.got(address, place, c));
                break;
            }
            case 10: same("count " + b, lines.count(b), model.count(b)); break;
            default: halves(); break;
        }
    }

    private void terminal() {
        int address = random.nextInt(4) == 0 ? odd(random.nextInt(32)) : address();
        int gap = odd(4 + random.nextInt(9));
        same("terminal " + address + " " + gap, lines.terminal(address, gap), model.terminal(address, gap));
    }

    private void listens() {
        int address = address();
        int line = odd(random.nextInt(2));
        boolean on = random.nextInt(3) != 0;
        same("listens " + address + " " + line + " " + on, lines.listens(address, line, on), model.listens(address, line, on));
    }

    private void hold() {
        int address = address();
        int place = place();
        int k = odd(random.nextInt(4));
        int word = odd(random.nextInt(65536));
        same("hold " + address + " " + place + " " + k, lines.hold(address, place, k, word), model.hold(address, place, k, word));
    }

    private void note() {
        int address = address();
        int which = odd(NOTES[random.nextInt(4)]);
        boolean on = which == 8 ? random.nextInt(4) == 0 : random.nextBoolean();
        same("note " + address + " " + which + " " + on, lines.note(address, which, on), model.note(address, which, on));
    }

    private void vector() {
        int address = address();
        int word = odd(random.nextInt(65536));
        same("vector " + address + " " + word, lines.vector(address, word), model.vector(address, word));
    }

    private void bar() {
        int address = address();
        boolean t = random.nextBoolean();
        int place = place();
        boolean on = random.nextInt(3) == 0;
        same("bar " + address + " " + place, lines.bar(address, t, place, on), model.bar(address, t, place, on));
    }

    private void block() {
        int block = odd(random.nextInt(3));
        int k = odd(random.nextInt(3));
        int word = odd(random.nextInt(3) == 0 ? random.nextInt(65536) : command());
        same("block " + block + " " + k + " " + word, lines.block(block, k, word), model.block(block, k, word));
    }

    /** Bits that mean something to a terminal if an altered sync makes a command of them. */
    private int command() {
        int code = random.nextBoolean() ? 1 + random.nextInt(3) : random.nextInt(32);
        return address() % 32 * 2048 + random.nextInt(2) * 1024 + random.nextInt(4) * 32 + code;
    }

    private void transfer() {
        int kind = odd(random.nextInt(4));
        int from = odd(address());
        int fromPlace = place();
        int to = odd(address());
        int toPlace = kind == 3 ? odd(random.nextInt(23)) : place();
        int count = odd(random.nextInt(5) == 0 ? 32 : 1 + random.nextInt(3));
        int block = odd(random.nextInt(3));
        int line = odd(random.nextInt(2));
        same("transfer " + kind + " " + from + " " + fromPlace + " " + to + " " + toPlace + " " + count + " " + block
                + " " + line, lines.transfer(kind, from, fromPlace, to, toPlace, count, block, line),
                model.transfer(kind, from, fromPlace, to, toPlace, count, block, line));
    }

    private void close() {
        same("close", lines.close(), model.close());
    }

    private void retriesOrPeriod() {
        int many = odd(random.nextInt(3));
        same("retries " + many, lines.retries(many) ? 1 : 0, model.retries(many) ? 1 : 0);
        int time = odd(random.nextInt(20_000));
        same("period " + time, lines.period(time) ? 1 : 0, model.period(time) ? 1 : 0);
    }

    private void run() {
        if (random.nextInt(3) == 0) {
            close();
        }
        int many = odd(1 + random.nextInt(2));
        same("run " + many, lines.run(many), model.run(many));
    }

    private void alter() {
        int ahead = odd(random.nextInt(3) == 0 ? random.nextInt(400) : random.nextInt(8));
        long halves = flips();
        same("alter " + ahead + " " + halves, lines.alter(ahead, halves) ? 1 : 0, model.alter(ahead, halves) ? 1 : 0);
    }

    /** Mostly flips that leave another sound word: the sync, or an even number of bits. */
    private long flips() {
        long halves = 0;
        switch (random.nextInt(6)) {
            case 0: return 1L << random.nextInt(40);
            case 1: return random.nextLong();
            case 2: halves = 63L << 34; break;
            case 3: return 63L << 34;
            default: break;
        }
        return halves ^ 3L << 2 * random.nextInt(17) ^ 3L << 2 * random.nextInt(17);
    }

    private void mute() {
        int address = address();
        int ahead = odd(random.nextInt(6));
        same("mute " + address + " " + ahead, lines.mute(address, ahead) ? 1 : 0, model.mute(address, ahead) ? 1 : 0);
    }

    private void halves() {
        boolean command = random.nextBoolean();
        int bits = odd(random.nextInt(65536));
        long halves = lines.halves(command, bits);
        same("halves " + command + " " + bits, halves, model.halves(command, bits));
        long changed = random.nextBoolean() ? halves : halves ^ flips();
        same("word " + changed, lines.word(changed), model.word(changed));
    }

    private int address() {
        return odd(ADDRESSES[random.nextInt(ADDRESSES.length)]);
    }

    private int place() {
        return odd(1 + random.nextInt(3));
    }

    /** Now and then another number instead, mostly one that there is not. */
    private int odd(int usual) {
        return random.nextInt(60) == 0 ? ODD[random.nextInt(ODD.length)] : usual;
    }

    private void same(String call, long got, long want) {
        check.due(call, got, want);
    }
}
