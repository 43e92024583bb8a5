/** All that can be seen of a pair, as one text. */
final class Look {
    private Look() {
    }

    static int addresses(LeasePair pair) {
        int n = 0;
        while (n < 64 && exists(pair, n)) {
            n++;
        }
        return n;
    }

    private static boolean exists(LeasePair pair, int address) {
        try {
            pair.record(0, address, 0);
            return true;
        } catch (IllegalArgumentException e) {
            return false;
        }
    }

    static String at(LeasePair pair) {
        StringBuilder text = new StringBuilder();
        int addresses = addresses(pair);
        for (int s = 0; s < 2; s++) {
            text.append("server ").append(s).append(':');
            for (int what = 0; what <= 8; what++) {
                text.append(' ').append(pair.server(s, what));
            }
            text.append('\n');
            for (int a = 0; a < addresses; a++) {
                text.append("  record ").append(a).append(':');
                for (int what = 0; what <= 9; what++) {
                    text.append(' ').append(pair.record(s, a, what));
                }
                text.append('\n');
            }
        }
        for (int c = 0; c < 16; c++) {
            text.append("client ").append(c).append(':');
            for (int what = 0; what <= 2; what++) {
                text.append(' ').append(pair.client(c, what));
            }
            text.append('\n');
        }
        for (int p = 0; p < pair.messages(); p++) {
            text.append("message ").append(p).append(':');
            for (int what = 0; what <= 6; what++) {
                text.append(' ').append(pair.message(p, what));
            }
            text.append('\n');
        }
        return text.append("most ").append(pair.most()).toString();
    }
}
