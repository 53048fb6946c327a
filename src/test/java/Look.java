/**
 * What can be asked of an object without a call of its own. An object is used for at most 512 calls,
 * so that each question goes to another one, which has had the same calls; a new one is taken when
 * that one has no call left.
 */
final class Look {
    private final Subject of;
    private LeaseNet copy;
    private int left;

    Look(Subject of) {
        this.of = of;
    }

    /** All that can be seen, as a text to be compared. */
    static String all(Subject of) {
        return new Look(of).seen();
    }

    int packets() {
        return ask(LeaseNet::packets);
    }

    int packet(int k, int i) {
        return ask(x -> x.packet(k, i));
    }

    int told(int what) {
        return ask(x -> x.told(what));
    }

    int client(int client, int what) {
        return ask(x -> x.client(client, what));
    }

    int record(int address, int what) {
        return ask(x -> x.record(address, what));
    }

    int count(int what) {
        return ask(x -> x.count(what));
    }

    private int ask(Subject.Call question) {
        if (left == 0) {
            copy = of.playedAgain();
            left = of.callsLeft();
        }
        if (left == 0) {
            throw new AssertionError("it has had 512 calls: what it answers now is free");
        }
        left--;
        return question.on(copy);
    }

    private String seen() {
        StringBuilder text = new StringBuilder();
        for (int what = 0; what < 5; what++) {
            text.append(count(what)).append(' ');
        }
        for (int c = 0; c < 12; c++) {
            for (int what = 0; what < 7; what++) {
                text.append(client(c, what)).append(' ');
            }
        }
        addRecords(text);
        addPackets(text);
        addTape(text);
        return text.toString();
    }

    /** An address without record is left out, if it is as the document says, to keep the text short. */
    private void addRecords(StringBuilder text) {
        for (int a = 1; a < 1024; a++) {
            int state = record(a, 0);
            int holder = record(a, 1);
            int until = record(a, 2);
            if (state != 0 || holder != -1 || until != 0) {
                text.append(a).append(':').append(state).append(',').append(holder).append(',').append(until)
                        .append(' ');
            }
        }
    }

    private void addPackets(StringBuilder text) {
        int size = packets();
        for (int k = 0; k < size; k++) {
            int length = packet(k, -2);
            for (int i = -1; i < length; i++) {
                text.append(packet(k, i)).append(' ');
            }
            text.append("; ");
        }
    }

    private void addTape(StringBuilder text) {
        try {
            for (int what = 0; what < 11; what++) {
                text.append(told(what)).append(' ');
            }
        } catch (IllegalArgumentException e) {
            text.append("broken");
        }
    }
}
