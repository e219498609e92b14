/** Texts put on THE TAPE sign by sign, and SITES made of them. */
final class Tapes {
    private Tapes() { }

    static void put(BarrowPlank x, String text) {
        for (int k = 0; k < text.length(); k++) {
            x.feed(text.charAt(k));
        }
    }

    static int read(BarrowPlank x, String text) {
        put(x, text);
        return x.site();
    }

    /** A new object on which this SITE holds. */
    static BarrowPlank with(String site) {
        BarrowPlank x = new BarrowPlank();
        int answer = read(x, site);
        if (answer != 0) {
            throw new IllegalStateException("no SITE for a test: " + site + " answered " + answer);
        }
        return x;
    }

    /** A new object on which this SITE holds, with one man. */
    static BarrowPlank with(String site, int kind, int v, int strong) {
        BarrowPlank x = with(site);
        x.man(kind, v, strong);
        return x;
    }
}
