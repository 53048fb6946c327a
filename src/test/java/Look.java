/** All that can be seen of an object without changing it. */
final class Look {
    private Look() {
    }

    static String all(LeaseNet x) {
        StringBuilder seen = new StringBuilder();
        for (int what = 0; what < 5; what++) {
            seen.append(x.count(what)).append(' ');
        }
        for (int c = 0; c < 12; c++) {
            for (int what = 0; what < 7; what++) {
                seen.append(x.client(c, what)).append(' ');
            }
        }
        for (int a = 1; a < 1024; a++) {
            // An address without record is left out, if it is as the document says, to keep the text short.
            if (x.record(a, 0) != 0 || x.record(a, 1) != -1 || x.record(a, 2) != 0) {
                seen.append(a).append(':').append(x.record(a, 0)).append(',').append(x.record(a, 1))
                        .append(',').append(x.record(a, 2)).append(' ');
            }
        }
        for (int k = 0; k < x.packets(); k++) {
            for (int i = -2; i < x.packet(k, -2); i++) {
                seen.append(x.packet(k, i)).append(' ');
            }
        }
        try {
            for (int what = 0; what < 11; what++) {
                seen.append(x.told(what)).append(' ');
            }
        } catch (IllegalArgumentException e) {
            seen.append("broken");
        }
        return seen.toString();
    }
}
