import java.util.function.IntUnaryOperator;

/** Counts and prints the answers that are not the ones that are due, with the words of the document that ask for them. */
final class Due {
    private static int wrong;
    private static String words = "";

    private Due() {
    }

    /** What follows is what these words of a promise ask for (0: of the terms); QuotesTest finds them in the document. */
    static void says(int promise, String itsWords) {
        words = (promise == 0 ? "Terms" : "Promise " + promise) + ", \"" + itsWords + "\": ";
    }

    static void due(String call, long got, long want) {
        if (got != want) {
            fails(call + " answered " + got + ", due is " + want);
        }
    }

    /** A number is taken from the least to the most; the ones beside these and the farthest ones are BAD. */
    static void range(String number, int least, int most, IntUnaryOperator call) {
        for (int v : new int[] {least, most}) {
            if (call.applyAsInt(v) == PortRooms.BAD) {
                fails(number + " of " + v + " is BAD");
            }
        }
        for (int v : new int[] {least - 1, most + 1, Integer.MIN_VALUE, Integer.MAX_VALUE}) {
            due(number + " of " + v, call.applyAsInt(v), PortRooms.BAD);
        }
    }

    static void fails(String what) {
        wrong++;
        System.out.println(words + what);
    }

    static void end() {
        if (wrong != 0) {
            System.out.println(wrong + " answers are not as due");
            System.exit(1);
        }
    }
}
