/**
 * Two lines on which a controller talks to terminals, command by command. The promises that the
 * public methods keep are told in ../shared/DOC.md, the part of Java used in ../shared/LANGUAGE.md.
 *
 * <p>Inside, a word is one int: its bits, and SORT above them if it is a command; NOT_SOUND if what
 * was heard is no word. Only altered words are ever spelled out in halves, since all others are
 * heard as they were said.
 */
public final class TwinLines {
    public static final int BAD = -1;

    private static final int SORT = 65_536;
    private static final int NOT_SOUND = -1;
    private static final int NONE = -1;
    private static final long MOST_HALVES = (1L << 40) - 1;
    private static final long COMMAND_SYNC = 0b111000;
    private static final long DATA_SYNC = 0b000111;

    private static final int ADDRESSES = 31;
    private static final int ALL = 31;
    private static final int CONTROLLER = 32;
    private static final int ROW = 32;
    private static final int PLACES = 30;
    private static final int BLOCKS = 16;
    private static final int MOST_TRANSFERS = 24;
    private static final int MOST_FRAMES = 8;
    private static final int MOST_ALTERED = 40;
    private static final int MOST_MUTES = 20;
    private static final int REMEMBERED = 64;

    private static final int ERROR = 1024;
    private static final int SERVICE = 256;
    private static final int FOR_ALL = 16;
    private static final int BUSY = 8;
    private static final int SUBSYSTEM = 4;
    private static final int FLAW = 1;

    private static final int OUT = 0;
    private static final int IN = 1;
    private static final int BETWEEN = 2;
    private static final int MODE = 3;

    // Sets of mode codes, a bit for each: what a terminal does at once, what ALL do at once, what
    // comes with a word, what is answered with a word, what the controller may be told.
    private static final int CODES_OF_ONE = 0x901FB;
    private static final int CODES_OF_ALL = 0x001FA;
    private static final int CODES_TOLD_A_WORD = 0x320000;
    private static final int CODES_SENDING_A_WORD = 0xD0000;
    private static final int CODES_TO_ONE = 0x3F01FF;
    private static final int CODES_TO_ALL = 0x3201FA;

    private static final int SILENT = 0;
    private static final int ANSWERS = 1;
    private static final int WAITS = 2;

    private static final int NOT_RUN = 0;
    private static final int DONE = 1;
    private static final int FAILED = 2;

    private static final int NOT_SAID = 1;
    private static final int GARBLED = 2;
    private static final int OTHER_ADDRESS = 3;
    private static final int REFUSED = 4;

    private static final int WORD_TIME = 20;
    private static final int MISSING_TIME = 14;
    private static final int ATTEMPT_TIME = 4;

    private final Lines lines = new Lines();
    private final Exchange exchange = new Exchange(lines);
    private final int[] blocks = new int[BLOCKS * ROW];
    private final Transfer[] transfers = new Transfer[MOST_TRANSFERS];
    private final int[] frameEnds = new int[MOST_FRAMES];
    private int transferCount;
    private int frameCount;
    private int nextFrame;
    private int framesRun;
    private int framesLate;
    private int retryCount = 1;
    private int periodTime = 1_000;

    public TwinLines() {
    }

    public int terminal(int address, int gap) {
        if (!within(address, 0, ADDRESSES - 1) || !within(gap, 4, 12)) {
            return BAD;
        }
        return exchange.addTerminal(address, gap) ? exchange.terminalCount : BAD;
    }

    public int listens(int address, int line, boolean on) {
        Terminal it = exchange.terminalAt(address);
        if (it == null || !isLine(line)) {
            return BAD;
        }
        int was = bitAt(it.listening, line);
        it.listening = withBit(it.listening, line, on);
        return was;
    }

    public int hold(int address, int place, int k, int word) {
        Terminal it = exchange.terminalAt(address);
        if (it == null || !isPlace(place) || !isRowIndex(k) || !isBits(word)) {
            return BAD;
        }
        return it.places.exchangeHeld(place, k, word);
    }

    public int got(int address, int place, int k) {
        Terminal it = exchange.terminalAt(address);
        if (it == null || !isPlace(place) || !isRowIndex(k)) {
            return BAD;
        }
        return it.places.receivedAt(place, k);
    }

    public int note(int address, int which, boolean on) {
        Terminal it = exchange.terminalAt(address);
        if (it == null || !isNote(which)) {
            return BAD;
        }
        int was = it.hasFlag(which) ? 1 : 0;
        it.setFlag(which, on);
        return was;
    }

    public int vector(int address, int word) {
        Terminal it = exchange.terminalAt(address);
        if (it == null || !isBits(word)) {
            return BAD;
        }
        int was = it.vectorWord;
        it.vectorWord = word;
        return was;
    }

    public int bar(int address, boolean t, int place, boolean on) {
        Terminal it = exchange.terminalAt(address);
        if (it == null || !isPlace(place)) {
            return BAD;
        }
        int was = it.places.isBarred(t, place) ? 1 : 0;
        it.places.setBarred(t, place, on);
        return was;
    }

    public int block(int block, int k, int word) {
        if (!isBlock(block) || !isRowIndex(k) || word != -1 && !isBits(word)) {
            return BAD;
        }
        int at = block * ROW + k;
        int was = blocks[at];
        if (word != -1) {
            blocks[at] = word;
        }
        return was;
    }

    public int transfer(int kind, int from, int fromPlace, int to, int toPlace, int count, int block, int line) {
        boolean writes = kind == OUT || kind == BETWEEN;
        boolean reads = kind == IN || kind == BETWEEN;
        if (transferCount >= MOST_TRANSFERS || !within(kind, OUT, MODE) || !isLine(line)
                || kind != BETWEEN && !isBlock(block)
                || kind != MODE && !within(count, 1, ROW)
                || kind == MODE && !isModeTo(to, toPlace)
                || writes && !(within(to, 0, ALL) && isPlace(toPlace))
                || reads && !(within(from, 0, ADDRESSES - 1) && isPlace(fromPlace))
                || kind == BETWEEN && from == to) {
            return BAD;
        }
        int toCommand = NONE;
        if (kind == MODE) {
            toCommand = Command.of(to, !inSet(CODES_TOLD_A_WORD, toPlace), 0, toPlace);
        } else if (writes) {
            toCommand = Command.of(to, false, toPlace, count);
        }
        int fromCommand = reads ? Command.of(from, true, fromPlace, count) : NONE;
        transfers[transferCount] = new Transfer(kind, toCommand, fromCommand, count, kind == BETWEEN ? 0 : block, line);
        transferCount++;
        return transferCount - 1;
    }

    public int close() {
        int first = frameCount == 0 ? 0 : frameEnd(frameCount - 1);
        if (frameCount >= MOST_FRAMES || first == transferCount) {
            return BAD;
        }
        frameEnds[frameCount] = transferCount;
        frameCount++;
        return frameCount - 1;
    }

    public boolean retries(int many) {
        if (!within(many, 0, 2)) {
            return false;
        }
        retryCount = many;
        return true;
    }

    public boolean period(int time) {
        if (!within(time, 0, 100_000)) {
            return false;
        }
        periodTime = time;
        return true;
    }

    public int run(int many) {
        if (!within(many, 1, 8) || frameCount == 0) {
            return BAD;
        }
        int done = 0;
        for (int i = 0; i < many; i++) {
            beginFrame();
            int first = nextFrame == 0 ? 0 : frameEnd(nextFrame - 1);
            int end = frameEnd(nextFrame);
            for (int number = first; number < end; number++) {
                if (perform(transferAt(number))) {
                    done++;
                }
            }
            framesRun++;
            nextFrame = nextFrame + 1 < frameCount ? nextFrame + 1 : 0;
        }
        return done;
    }

    public boolean alter(int ahead, long halves) {
        if (!within(ahead, 0, 5_000) || halves < 1 || halves > MOST_HALVES) {
            return false;
        }
        return lines.altered.put(lines.said + ahead, halves);
    }

    public boolean mute(int address, int ahead) {
        Terminal it = exchange.terminalAt(address);
        if (it == null || !within(ahead, 0, 500) || it.mutes.has(it.taken + ahead)) {
            return false;
        }
        return it.mutes.put(it.taken + ahead, 1);
    }

    public int result(int transfer, int what) {
        Transfer it = transferAt(transfer);
        if (it == null) {
            return BAD;
        }
        switch (what) {
            case 0: return it.state;
            case 1: return it.attempts;
            case 2: return it.lastLine;
            case 3: return it.why;
            case 4: return it.lastStatus;
            case 5: return it.endTime;
            default: return BAD;
        }
    }

    public int told(int address, int what) {
        Terminal it = exchange.terminalAt(address);
        if (it == null) {
            return BAD;
        }
        switch (what) {
            case 0: return it.status();
            case 1: return it.last;
            case 2: return it.clock;
            case 3: return it.check;
            case 4: return it.shut;
            case 5: return it.taken;
            case 6: return it.answersSaid;
            case 7: return it.vectorWord;
            default: return BAD;
        }
    }

    public int heard(int back, int what) {
        if (!within(back, 1, REMEMBERED) || back > lines.said) {
            return BAD;
        }
        return lines.remembered(back, what);
    }

    public long halves(boolean command, int bits) {
        if (!isBits(bits)) {
            return -1;
        }
        return Coding.spell(command ? SORT + bits : bits);
    }

    public int word(long halves) {
        return Coding.read(halves);
    }

    public int count(int what) {
        switch (what) {
            case 0: return lines.time;
            case 1: return lines.said;
            case 2: return framesRun;
            case 3: return framesLate;
            case 4: return transferCount;
            case 5: return frameCount;
            case 6: return lines.altered.many;
            case 7: return nextFrame;
            default: return BAD;
        }
    }

    private void beginFrame() {
        int due = periodTime * framesRun;
        if (lines.time > due) {
            framesLate++;
        } else {
            lines.time = due;
        }
    }

    private boolean perform(Transfer it) {
        if (it == null) {
            return false;
        }
        int perLine = retryCount + 1;
        it.state = FAILED;
        it.attempts = 0;
        for (int i = 0; i < 2 * perLine && it.state == FAILED; i++) {
            attempt(it, i < perLine ? it.line : 1 - it.line);
        }
        return it.state == DONE;
    }

    private void attempt(Transfer it, int line) {
        it.compose(exchange.toSay, blocks);
        exchange.sayMessage(line);
        exchange.hearAnswers(line);
        exchange.hearRelayed(line);
        it.attempts++;
        it.lastLine = line;
        it.judge(exchange);
        if (exchange.answered < it.awaited()) {
            lines.time += MISSING_TIME;
        }
        lines.time += ATTEMPT_TIME;
        it.endTime = lines.time;
        if (it.why == 0) {
            it.state = DONE;
            it.keepWords(exchange.firstAnswer, blocks);
        }
    }

    private Transfer transferAt(int number) {
        return within(number, 0, transferCount - 1) && number < MOST_TRANSFERS ? transfers[number] : null;
    }

    private int frameEnd(int frame) {
        return within(frame, 0, MOST_FRAMES - 1) ? frameEnds[frame] : 0;
    }

    private static boolean within(int value, int least, int most) {
        return value >= least && value <= most;
    }

    private static boolean isLine(int line) {
        return line == 0 || line == 1;
    }

    private static boolean isPlace(int place) {
        return place >= 1 && place <= PLACES;
    }

    private static boolean isRowIndex(int k) {
        return k >= 0 && k < ROW;
    }

    private static boolean isBits(int word) {
        return word >= 0 && word < SORT;
    }

    private static boolean isBlock(int block) {
        return block >= 0 && block < BLOCKS;
    }

    private static boolean isNote(int which) {
        return which == SERVICE || which == BUSY || which == SUBSYSTEM || which == FLAW;
    }

    private static boolean isModeTo(int to, int code) {
        return within(to, 0, ALL) && inSet(to == ALL ? CODES_TO_ALL : CODES_TO_ONE, code);
    }

    // A shift alone would take the code modulo 32.
    private static boolean inSet(int set, int code) {
        return code >= 0 && code < 32 && (set >> code & 1) == 1;
    }

    private static int bitAt(int bits, int index) {
        return bits >> index & 1;
    }

    private static int withBit(int bits, int index, boolean on) {
        return on ? bits | 1 << index : bits & ~(1 << index);
    }

    /** How words are spelled as halves, and read from them. */
    private static final class Coding {
        static long spell(int word) {
            int bits = word & SORT - 1;
            int withParity = bits << 1 | 1 - (Integer.bitCount(bits) & 1);
            long halves = word >= SORT ? COMMAND_SYNC : DATA_SYNC;
            for (int i = 16; i >= 0; i--) {
                halves = halves << 2 | ((withParity >> i & 1) == 1 ? 0b10 : 0b01);
            }
            return halves;
        }

        static int read(long halves) {
            long sync = halves >> 34;
            if (sync != COMMAND_SYNC && sync != DATA_SYNC) {
                return NOT_SOUND;
            }
            int withParity = 0;
            for (int i = 16; i >= 0; i--) {
                int pair = (int) (halves >> 2 * i & 0b11);
                if (pair != 0b10 && pair != 0b01) {
                    return NOT_SOUND;
                }
                withParity = withParity << 1 | pair >> 1;
            }
            if ((Integer.bitCount(withParity) & 1) == 0) {
                return NOT_SOUND;
            }
            return (sync == COMMAND_SYNC ? SORT : 0) + (withParity >> 1);
        }
    }

    /** The parts of a command's bits. */
    private static final class Command {
        static int of(int address, boolean sends, int place, int countOrCode) {
            return address << 11 | (sends ? 1 << 10 : 0) | place << 5 | countOrCode & 31;
        }

        static int addressOf(int bits) {
            return bits >> 11 & 31;
        }

        static boolean sends(int bits) {
            return (bits & 1 << 10) != 0;
        }

        static int placeOf(int bits) {
            return bits >> 5 & 31;
        }

        static boolean isMode(int bits) {
            int place = bits >> 5 & 31;
            return place == 0 || place == 31;
        }

        static int codeOf(int bits) {
            return bits & 31;
        }

        static int countOf(int bits) {
            int count = bits & 31;
            return count == 0 ? ROW : count;
        }
    }

    /**
     * Numbers that are still to come, each with some halves. They are kept in rising order, so that
     * whoever counts up has only the first one to look at.
     */
    private static final class ToCome {
        private final int[] numbers;
        private final long[] halvesOf;
        private int many;

        ToCome(int room) {
            numbers = new int[Math.max(room, 0)];
            halvesOf = new long[Math.max(room, 0)];
        }

        boolean has(int number) {
            int at = placeFor(number);
            return at < many && numbers[at] == number;
        }

        boolean put(int number, long halves) {
            int at = placeFor(number);
            if (at < many && numbers[at] == number) {
                halvesOf[at] = halves;
                return true;
            }
            if (many >= numbers.length) {
                return false;
            }
            System.arraycopy(numbers, at, numbers, at + 1, many - at);
            System.arraycopy(halvesOf, at, halvesOf, at + 1, many - at);
            numbers[at] = number;
            halvesOf[at] = halves;
            many++;
            return true;
        }

        /** The halves of a number that has come now, which is forgotten; 0 if it is not here. */
        long takeOut(int number) {
            if (many <= 0 || numbers[0] != number) {
                return 0;
            }
            long halves = halvesOf[0];
            many--;
            System.arraycopy(numbers, 1, numbers, 0, many);
            System.arraycopy(halvesOf, 1, halvesOf, 0, many);
            return halves;
        }

        private int placeFor(int number) {
            int at = 0;
            while (at < many && numbers[at] < number) {
                at++;
            }
            return at;
        }
    }

    /** What is said on both lines, the time it takes, and the last of it. */
    private static final class Lines {
        private final int[] words = new int[REMEMBERED];
        private final int[] lineOf = new int[REMEMBERED];
        private final int[] sayerOf = new int[REMEMBERED];
        private final int[] beginOf = new int[REMEMBERED];
        private final ToCome altered = new ToCome(MOST_ALTERED);
        private int said;
        private int time;

        /** Says a word: how it is heard. */
        int speak(int word, int line, int sayer) {
            long flipped = altered.takeOut(said);
            int heard = flipped == 0 ? word : Coding.read(Coding.spell(word) ^ flipped);
            int at = said & REMEMBERED - 1;
            words[at] = heard;
            lineOf[at] = line;
            sayerOf[at] = sayer;
            beginOf[at] = time;
            said++;
            time += WORD_TIME;
            return heard;
        }

        int remembered(int back, int what) {
            int at = said - back & REMEMBERED - 1;
            int heard = words[at];
            switch (what) {
                case 0: return heard == NOT_SOUND ? -1 : heard & SORT - 1;
                case 1: return heard == NOT_SOUND ? -1 : heard / SORT;
                case 2: return lineOf[at];
                case 3: return sayerOf[at];
                case 4: return beginOf[at];
                default: return BAD;
            }
        }
    }

    /**
     * A row of words: a message or an answer. It notes where commands stand and how many data words
     * end it, so that no terminal has to go through the row again.
     */
    private static final class Words {
        private final int[] words = new int[ROW + 1];
        private final int[] commandAt = new int[ROW + 1];
        private int many;
        private int commands;
        private int dataAtEnd;

        void clear() {
            many = 0;
            commands = 0;
            dataAtEnd = 0;
        }

        void add(int word) {
            if (many < 0 || many >= words.length || commands < 0 || commands >= commandAt.length) {
                return;
            }
            words[many] = word;
            if (word >= SORT) {
                commandAt[commands] = many;
                commands++;
            }
            dataAtEnd = word >= 0 && word < SORT ? dataAtEnd + 1 : 0;
            many++;
        }

        int at(int index) {
            return index >= 0 && index < many && index < words.length ? words[index] : NOT_SOUND;
        }

        boolean isCommand(int index) {
            return at(index) >= SORT;
        }

        int bitsAt(int index) {
            return at(index) & SORT - 1;
        }

        /** Where the last command to this address or to ALL stands; NONE if there is none. */
        int lastCommandTo(int address) {
            for (int i = Math.min(commands, commandAt.length) - 1; i >= 0; i--) {
                int to = Command.addressOf(bitsAt(commandAt[i]));
                if (to == address || to == ALL) {
                    return commandAt[i];
                }
            }
            return NONE;
        }

        /** Whether the words from an index on are just so many sound ones of sort 0. */
        boolean isJustData(int from, int count) {
            return many - from == count && dataAtEnd >= count;
        }

        void copyTo(int from, int[] target, int targetFrom, int count) {
            if (from >= 0 && count >= 0 && targetFrom >= 0
                    && from + count <= many && targetFrom + count <= target.length) {
                System.arraycopy(words, from, target, targetFrom, count);
            }
        }
    }

    /** The places of a terminal. */
    private static final class Places {
        private final int[] held = new int[PLACES * ROW];
        private final int[] received = new int[PLACES * ROW];
        private int barredToGet;
        private int barredToSend;

        int exchangeHeld(int place, int k, int word) {
            int at = indexOf(place, k);
            if (at < 0 || at >= held.length) {
                return BAD;
            }
            int was = held[at];
            held[at] = word;
            return was;
        }

        int receivedAt(int place, int k) {
            int at = indexOf(place, k);
            return at >= 0 && at < received.length ? received[at] : BAD;
        }

        boolean isBarred(boolean sends, int place) {
            return ((sends ? barredToSend : barredToGet) >> place & 1) == 1;
        }

        void setBarred(boolean sends, int place, boolean on) {
            if (sends) {
                barredToSend = withBit(barredToSend, place, on);
            } else {
                barredToGet = withBit(barredToGet, place, on);
            }
        }

        void send(int place, int count, Words reply) {
            int first = indexOf(place, 0);
            for (int k = 0; k < count; k++) {
                int at = first + k;
                if (at >= 0 && at < held.length) {
                    reply.add(held[at]);
                }
            }
        }

        static int indexOf(int place, int k) {
            return (place - 1) * ROW + k;
        }
    }

    /** A terminal: what it does with a message, and what it answers. */
    private static final class Terminal {
        private final int address;
        private final int gap;
        private final Places places = new Places();
        private final ToCome mutes = new ToCome(MOST_MUTES);
        private int listening = 0b11;
        private int shut;
        // ERROR, FOR ALL and the notes, each as the bit that it is in the status.
        private int flags;
        private boolean hidden;
        private int vectorWord;
        private int check;
        private int checksDone;
        private int clock;
        private int last = NONE;
        private int taken;
        private int answersSaid;
        private boolean mutedNow;
        private int partner;

        Terminal(int address, int gap) {
            this.address = address;
            this.gap = gap;
        }

        int status() {
            return address << 11 | (hidden ? flags & ~FLAW : flags);
        }

        boolean hasFlag(int flag) {
            return (flags & flag) != 0;
        }

        void setFlag(int flag, boolean on) {
            flags = on ? flags | flag : flags & ~flag;
        }

        boolean maySpeak(int line) {
            return !mutedNow && bitAt(shut, line) == 0;
        }

        /** Takes its command in a message, if there is one: SILENT, ANSWERS (the reply), or WAITS. */
        int take(Words message, int line, Words reply) {
            int at = message.lastCommandTo(address);
            if (at == NONE || bitAt(listening, line) == 0) {
                return SILENT;
            }
            mutedNow = mutes.takeOut(taken) != 0;
            taken++;
            int command = message.bitsAt(at);
            int rest = at + 1;
            if (message.many == rest && asksForStatus(command)) {
                return tellStatus(command, reply);
            }
            last = command;
            setFlag(FOR_ALL, Command.addressOf(command) == ALL);
            setFlag(ERROR, false);
            if (Command.isMode(command)) {
                return takeMode(message, rest, line, reply);
            }
            if (Command.sends(command)) {
                return takeSend(message, rest, reply);
            }
            if (message.isJustData(rest, Command.countOf(command))) {
                return receive(message, rest, reply);
            }
            return waitForPartner(message, rest);
        }

        /** Hears the answer that it waited for (an empty one if none was said). */
        int hearPartner(Words answer, Words reply) {
            boolean isPartner = answer.isCommand(0) && Command.addressOf(answer.bitsAt(0)) == partner;
            if (isPartner && answer.isJustData(1, Command.countOf(last))) {
                return receive(answer, 1, reply);
            }
            return refuse();
        }

        private boolean asksForStatus(int command) {
            int code = Command.codeOf(command);
            return Command.isMode(command) && Command.sends(command) && (code == 2 || code == 18)
                    && Command.addressOf(command) == address;
        }

        private int tellStatus(int command, Words reply) {
            reply.clear();
            reply.add(SORT + status());
            if (Command.codeOf(command) == 18) {
                reply.add(Math.max(last, 0));
            } else {
                last = command;
            }
            return ANSWERS;
        }

        private int takeMode(Words message, int rest, int line, Words reply) {
            int code = Command.codeOf(last);
            boolean fits = Command.sends(last)
                    ? message.many == rest && inSet(hasFlag(FOR_ALL) ? CODES_OF_ALL : CODES_OF_ONE, code)
                    : message.isJustData(rest, 1) && inSet(CODES_TOLD_A_WORD, code);
            if (!fits) {
                return refuse();
            }
            boolean free = !hasFlag(BUSY);
            if (free) {
                act(code, line, message.bitsAt(rest));
            }
            int outcome = answerStatus(reply);
            if (free && code == 16) {
                reply.add(vectorWord);
                setFlag(SERVICE, false);
            } else if (free && code == 19) {
                reply.add(check);
            }
            return outcome;
        }

        private void act(int code, int line, int word) {
            int other = 1 - line;
            switch (code) {
                case 1: clock = 0; break;
                case 3: checkItself(); break;
                case 4: shut = withBit(shut, other, true); break;
                case 5: shut = withBit(shut, other, false); break;
                case 6: hidden = true; break;
                case 7: hidden = false; break;
                case 8: reset(); break;
                case 17: clock = word; break;
                case 20: shut = word == other ? withBit(shut, other, true) : shut; break;
                case 21: shut = word == other ? withBit(shut, other, false) : shut; break;
                default: break;
            }
        }

        private void checkItself() {
            checksDone++;
            check = 16 * checksDone + (flags & FLAW) + 2 * shut & SORT - 1;
        }

        private void reset() {
            shut = 0;
            hidden = false;
            check = 0;
            clock = 0;
        }

        private int takeSend(Words message, int rest, Words reply) {
            if (message.many != rest || hasFlag(FOR_ALL)) {
                return refuse();
            }
            boolean free = isFree(true);
            int outcome = answerStatus(reply);
            if (free) {
                places.send(Command.placeOf(last), Command.countOf(last), reply);
            }
            return outcome;
        }

        private int receive(Words words, int from, Words reply) {
            if (isFree(false)) {
                int first = Places.indexOf(Command.placeOf(last), 0);
                words.copyTo(from, places.received, first, Command.countOf(last));
            }
            return answerStatus(reply);
        }

        private int waitForPartner(Words message, int rest) {
            int other = message.bitsAt(rest);
            partner = Command.addressOf(other);
            boolean relayed = message.many - rest == 1 && message.isCommand(rest) && Command.sends(other)
                    && partner != address && partner != ALL && !Command.isMode(other)
                    && Command.countOf(other) == Command.countOf(last);
            return relayed ? WAITS : refuse();
        }

        private boolean isFree(boolean sends) {
            if (places.isBarred(sends, Command.placeOf(last))) {
                setFlag(ERROR, true);
            }
            return !hasFlag(ERROR) && !hasFlag(BUSY);
        }

        private int refuse() {
            setFlag(ERROR, true);
            return SILENT;
        }

        private int answerStatus(Words reply) {
            reply.clear();
            reply.add(SORT + status());
            return hasFlag(FOR_ALL) ? SILENT : ANSWERS;
        }
    }

    /**
     * One message of the controller and the answers to it. There are never more than two: all but
     * the relayed ones answer the last command that was heard, which has one address, and a relayed
     * one answers the command just before it.
     */
    private static final class Exchange {
        private final Lines lines;
        private final Terminal[] terminals = new Terminal[ADDRESSES];
        private final Words toSay = new Words();
        private final Words message = new Words();
        private final Words reply = new Words();
        private final Words firstAnswer = new Words();
        private final Words secondAnswer = new Words();
        private int terminalCount;
        private int answered;
        private int waiting;

        Exchange(Lines lines) {
            this.lines = lines;
        }

        Terminal terminalAt(int address) {
            return address >= 0 && address < ADDRESSES ? terminals[address] : null;
        }

        boolean addTerminal(int address, int gap) {
            if (address < 0 || address >= ADDRESSES || terminals[address] != null) {
                return false;
            }
            terminals[address] = new Terminal(address, gap);
            terminalCount++;
            return true;
        }

        void sayMessage(int line) {
            message.clear();
            firstAnswer.clear();
            secondAnswer.clear();
            answered = 0;
            waiting = 0;
            for (int i = 0; i < toSay.many; i++) {
                message.add(lines.speak(toSay.at(i), line, CONTROLLER));
            }
        }

        void hearAnswers(int line) {
            for (int address = 0; address < ADDRESSES; address++) {
                Terminal it = terminals[address];
                if (it == null) {
                    continue;
                }
                int outcome = it.take(message, line, reply);
                if (outcome == WAITS) {
                    waiting = withBit(waiting, address, true);
                } else if (outcome == ANSWERS) {
                    sayReply(it, line);
                }
            }
        }

        void hearRelayed(int line) {
            for (int address = 0; address < ADDRESSES && waiting != 0; address++) {
                Terminal it = terminals[address];
                if (it != null && bitAt(waiting, address) == 1 && it.hearPartner(firstAnswer, reply) == ANSWERS) {
                    sayReply(it, line);
                }
            }
        }

        private void sayReply(Terminal it, int line) {
            if (!it.maySpeak(line)) {
                return;
            }
            Words answer = answered == 0 ? firstAnswer : secondAnswer;
            answered++;
            it.answersSaid++;
            lines.time += it.gap;
            for (int i = 0; i < reply.many; i++) {
                answer.add(lines.speak(reply.at(i), line, it.address));
            }
        }
    }

    /** A transfer of the controller, and how it went when it was run last. */
    private static final class Transfer {
        private final int toCommand;
        private final int fromCommand;
        private final int wordsSaid;
        private final int wordsAwaited;
        private final boolean keeps;
        private final int block;
        private final int line;
        private int state = NOT_RUN;
        private int attempts;
        private int lastLine;
        private int why;
        private int lastStatus = NONE;
        private int endTime;

        /** Either command may be NONE; count is looked at only where there are places. */
        Transfer(int kind, int toCommand, int fromCommand, int count, int block, int line) {
            int code = Command.codeOf(toCommand);
            boolean toldAWord = kind == MODE && inSet(CODES_TOLD_A_WORD, code);
            boolean sendingAWord = kind == MODE && inSet(CODES_SENDING_A_WORD, code);
            this.toCommand = toCommand;
            this.fromCommand = fromCommand;
            this.wordsSaid = kind == OUT ? count : toldAWord ? 1 : 0;
            this.wordsAwaited = fromCommand != NONE ? count : sendingAWord ? 1 : 0;
            this.keeps = kind == IN || sendingAWord;
            this.block = block;
            this.line = line;
        }

        void compose(Words toSay, int[] blocks) {
            toSay.clear();
            if (toCommand != NONE) {
                toSay.add(SORT + toCommand);
            }
            if (fromCommand != NONE) {
                toSay.add(SORT + fromCommand);
            }
            int first = block * ROW;
            for (int k = 0; k < wordsSaid; k++) {
                if (first >= 0 && first + k < blocks.length) {
                    toSay.add(blocks[first + k]);
                }
            }
        }

        int awaited() {
            return (fromCommand != NONE ? 1 : 0) + (awaitsTo() ? 1 : 0);
        }

        /** Looks at the answers: why the attempt failed, and the last status awaited. */
        void judge(Exchange exchange) {
            int seen = Math.min(exchange.answered, awaited());
            Words lastSeen = seen == 2 ? exchange.secondAnswer : exchange.firstAnswer;
            lastStatus = seen > 0 && lastSeen.isCommand(0) ? lastSeen.bitsAt(0) : NONE;
            why = 0;
            if (fromCommand != NONE) {
                why = seen < 1 ? NOT_SAID : flawOf(exchange.firstAnswer, fromCommand, wordsAwaited);
            }
            if (why == 0 && awaitsTo()) {
                Words answer = fromCommand != NONE ? exchange.secondAnswer : exchange.firstAnswer;
                int words = fromCommand != NONE ? 0 : wordsAwaited;
                why = seen < awaited() ? NOT_SAID : flawOf(answer, toCommand, words);
            }
        }

        void keepWords(Words answer, int[] blocks) {
            if (keeps) {
                answer.copyTo(1, blocks, block * ROW, wordsAwaited);
            }
        }

        private boolean awaitsTo() {
            return toCommand != NONE && Command.addressOf(toCommand) != ALL;
        }

        private static int flawOf(Words answer, int command, int words) {
            if (!answer.isCommand(0)) {
                return GARBLED;
            }
            int status = answer.bitsAt(0);
            if (Command.addressOf(status) != Command.addressOf(command)) {
                return OTHER_ADDRESS;
            }
            if ((status & (ERROR | BUSY)) != 0) {
                return REFUSED;
            }
            return answer.isJustData(1, words) ? 0 : GARBLED;
        }
    }
}
