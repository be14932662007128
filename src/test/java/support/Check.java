/** Counts answers that are not as due; a test ends by finish(). */
final class Check {
    private static final int MOST_TOLD = 40;
    private static int asked;
    private static int wrong;

    private Check() {
    }

    static void due(String call, long got, long want) {
        asked++;
        if (got != want) {
            wrong++;
            if (wrong <= MOST_TOLD) {
                System.out.println(call + " answered " + got + ", due is " + want);
            }
        }
    }

    static void due(String call, boolean got, boolean want) {
        due(call, got ? 1 : 0, want ? 1 : 0);
    }

    static int asked() {
        return asked;
    }

    static int wrong() {
        return wrong;
    }

    static void finish() {
        System.out.println(asked + " answers, " + wrong + " not as due");
        if (wrong != 0 || asked == 0) {
            System.exit(1);
        }
    }

    /** Puts a text of at most 200 signs onto an empty tape. */
    static void type(PrimeBlocks x, String text) {
        int[] numbers = new int[5];
        for (int begin = 0; begin < text.length(); begin += 20) {
            for (int i = 0; i < 20; i++) {
                int sign = begin + i < text.length() ? text.charAt(begin + i) & 255 : ' ';
                numbers[i / 4] = numbers[i / 4] << 8 | sign;
            }
            due("feed of '" + text + "'", x.feed(numbers[0], numbers[1], numbers[2], numbers[3], numbers[4]), begin + 20);
        }
        due("end behind '" + text + "'", x.end(text.length()), true);
    }

    static int read(PrimeBlocks x, String text, int slot) {
        type(x, text);
        return x.text(slot);
    }

    /** The text must be refused with this fault, place and these places from within outwards. */
    static void dueFault(PrimeBlocks x, String text, int fault, int place, int... within) {
        due("text '" + text + "'", read(x, text, 0), PrimeBlocks.NONE);
        due("fault(0) of '" + text + "'", x.fault(0), fault);
        due("fault(1) of '" + text + "'", x.fault(1), place);
        due("fault(2) of '" + text + "'", x.fault(2), within.length);
        for (int i = 0; i < within.length; i++) {
            due("fault(" + (10 + i) + ") of '" + text + "'", x.fault(10 + i), within[i]);
        }
        due("fault behind the last of '" + text + "'", x.fault(10 + within.length), PrimeBlocks.NONE);
    }

    /** The text must be taken, and have these values at the classes. */
    static void dueValues(PrimeBlocks x, String text, long... values) {
        due("text '" + text + "'", read(x, text, 0), 0);
        due("fault(0) of '" + text + "'", x.fault(0), 0);
        due("classes", x.look(2), values.length);
        for (int c = 0; c < values.length; c++) {
            due("value(0, " + c + ") of '" + text + "'", x.value(0, c), values[c]);
        }
    }
}
