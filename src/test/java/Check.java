/** What all tests of the project use: answers that are due, and texts put on the tape. */
final class Check {
    private static int wrong = 0;
    private static int looked = 0;

    private Check() {
    }

    static void due(String what, long got, long want) {
        looked++;
        if (got != want) {
            wrong++;
            System.out.println(what + " answered " + got + ", due is " + want);
        }
    }

    static void due(String what, boolean got, boolean want) {
        due(what, got ? 1 : 0, want ? 1 : 0);
    }

    static void end(String test) {
        System.out.println(test + ": " + looked + " answers looked at, " + wrong + " not as due");
        if (wrong != 0) {
            System.exit(1);
        }
    }

    /** Puts a text on an empty tape; one of up to 2,000 bytes fits. By how many calls. */
    static int put(FenceSides x, String text) {
        StringBuilder padded = new StringBuilder(text);
        while (padded.length() % 20 != 0) {
            padded.append(' ');
        }
        for (int at = 0; at < padded.length(); at += 20) {
            x.feed(four(padded, at), four(padded, at + 4), four(padded, at + 8), four(padded, at + 12), four(padded, at + 16));
        }
        x.back(padded.length() - text.length());
        return padded.length() / 20 + 1;
    }

    static int four(CharSequence text, int at) {
        return text.charAt(at) << 24 | text.charAt(at + 1) << 16 | text.charAt(at + 2) << 8 | text.charAt(at + 3);
    }

    static FenceSides of(String text) {
        FenceSides x = new FenceSides();
        put(x, text);
        due("promise 4: read of <" + text + ">", x.read(), 0);
        return x;
    }

    static void fault(String text, int number, int place) {
        FenceSides x = new FenceSides();
        put(x, text);
        due("promise 4: the FAULT of <" + text + ">", x.read(), number);
        due("promise 5: the place in <" + text + ">", x.place(), place);
    }
}
