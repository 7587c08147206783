/**
 * Terminals 5 and 6 and a controller that says any message: an OUT to ALL, each word of which is
 * altered into the one that is wanted. No answer to it is awaited, so there is just one attempt.
 */
final class Bench {
    static final int SORT = 65_536;
    static final int UNSOUND = -1;
    static final int ALL = 31;
    static final int T = 1_024;
    static final int FIVE = 5 * 2_048;
    static final int SIX = 6 * 2_048;

    final TwinLines lines = new TwinLines();
    private final int length;

    /** All messages of one bench are on one line and have one length (1 to 33 words). */
    Bench(int line, int length) {
        this.length = length;
        lines.terminal(5, 8);
        lines.terminal(6, 4);
        if (length == 1) {
            lines.transfer(3, 0, 0, ALL, 1, 0, 0, line);
        } else {
            lines.transfer(0, 0, 0, ALL, 1, length - 1, 0, line);
        }
        lines.close();
    }

    /** A command word; its count 32 is told as 0. */
    static int command(int address, boolean t, int place, int countOrCode) {
        return SORT + address * 2_048 + (t ? T : 0) + place * 32 + countOrCode;
    }

    /** A command and so many data words behind it: 1, 2, 3, .. */
    static int[] withData(int command, int words) {
        int[] message = new int[words + 1];
        message[0] = command;
        for (int k = 1; k <= words; k++) {
            message[k] = k;
        }
        return message;
    }

    /** Says a message of words with their sort, or UNSOUND: how many words were said as answers. */
    int say(int... message) {
        if (message.length != length) {
            throw new IllegalArgumentException("a message of " + message.length + " words on a bench for " + length);
        }
        for (int i = 0; i < length; i++) {
            long usual = i > 0 ? lines.halves(false, 0)
                    : lines.halves(true, ALL * 2_048 + (length == 1 ? T + 1 : 32 + (length - 1) % 32));
            long wanted = message[i] == UNSOUND ? usual ^ 1 : lines.halves(message[i] >= SORT, message[i] % SORT);
            if (wanted != usual) {
                lines.alter(i, wanted ^ usual);
            }
        }
        int before = lines.count(1);
        lines.run(1);
        return lines.count(1) - before - length;
    }
}
