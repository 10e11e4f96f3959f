/** Brings texts to the tape of a house. */
final class Texts {
    private Texts() {
    }

    static void put(GrooveHouse x, String text) {
        x.end(0);
        for (int at = 0; at < text.length(); at += 20) {
            int[] n = new int[5];
            for (int i = 0; i < 20 && at + i < text.length(); i++) {
                n[i / 4] |= text.charAt(at + i) << 24 - 8 * (i % 4);
            }
            x.feed(n[0], n[1], n[2], n[3], n[4]);
        }
    }

    static int law(GrooveHouse x, String text) {
        put(x, text);
        return x.law();
    }

    static int guess(GrooveHouse x, String text) {
        put(x, text);
        return x.guess();
    }
}
