/** Feeds texts into objects. */
final class Fed {
    private Fed() {
    }

    /** An object with THE LAND of a text that has no FAULT. */
    static ToldWays landOf(String text) {
        ToldWays ways = new ToldWays();
        text(ways, text);
        int places = ways.land();
        if (places < 0) {
            throw new IllegalStateException(places + " at " + ways.fault() + " of: " + text);
        }
        return ways;
    }

    /** Signs 0 to 255 alone. */
    static void text(ToldWays ways, String text) {
        for (int from = 0; from < text.length(); from += 8) {
            String part = text.substring(from, Math.min(text.length(), from + 8));
            int has = ways.feed(part.length(), packed(part));
            if (has < 0) {
                throw new IllegalStateException("feed answered " + has);
            }
        }
    }

    static long packed(String part) {
        long bytes = 0;
        for (char sign : part.toCharArray()) {
            bytes = bytes << 8 | sign;
        }
        return bytes;
    }
}
