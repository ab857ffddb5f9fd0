/** What the tests share: answers that are due, and texts that are fed. */
final class Check {
    private static int wrong = 0;
    private static int right = 0;
    private static String promise = "";

    private Check() {
    }

    static void promise(int number) {
        promise = "promise " + number + ": ";
    }

    /** The document's own words that the next answers hold the program to. */
    static void sentence(String words) {
        promise = "\"" + words + "\": ";
    }

    static void due(String call, long got, long want) {
        if (got == want) {
            right++;
            return;
        }
        wrong++;
        if (wrong <= 40) {
            System.out.println(promise + call + " answered " + got + ", due is " + want);
        }
    }

    static void isTrue(String what, boolean is) {
        due(what, is ? 1 : 0, 1);
    }

    static void feed(MudLibrary x, String text) {
        for (int at = 0; at < text.length(); at += 8) {
            int n = Math.min(8, text.length() - at);
            long bytes = 0;
            for (int k = 0; k < n; k++) {
                bytes |= (long) (text.charAt(at + k) & 255) << 8 * k;
            }
            x.feed(n, bytes);
        }
    }

    static int text(MudLibrary x, String text) {
        feed(x, text);
        return x.text();
    }

    /** An object with so many BOOKS of one look, of WORTH 10. */
    static MudLibrary withBooks(int number, int look) {
        MudLibrary x = new MudLibrary();
        for (int k = 0; k < number; k++) {
            x.book(look, 10);
        }
        return x;
    }

    static void passAll(MudLibrary x, int hours) {
        for (int left = hours; left > 0; left -= 100) {
            x.pass(Math.min(100, left));
        }
    }

    /** THE RULE is a TEXT of these parts: its number. */
    static int rule(MudLibrary x, String first, String may, String value) {
        int text = text(x, "first " + first + ";may " + may + ";value " + value + ";");
        x.force(text);
        return text;
    }

    static void end(String name) {
        System.out.println(name + ": " + right + " answers are as due, " + wrong + " are not");
        if (wrong != 0) {
            System.exit(1);
        }
    }
}
