/** Counts the answers that are not as due, and writes texts into an object. */
final class Check {
    private int asked;
    private int wrong;
    private String sentence = "";
    private int askedBySentence = 1;

    /** Names the sentence of the document that the answers from here on are held to. */
    void says(String of) {
        isTrue("something is asked of a sentence", askedBySentence > 0);
        askedBySentence = 0;
        sentence = "(" + of + ") ";
    }

    void due(String call, long got, long want) {
        asked++;
        askedBySentence++;
        if (got != want) {
            wrong++;
            System.out.println(sentence + call + " answered " + got + ", due is " + want);
        }
    }

    void isTrue(String what, boolean holds) {
        asked++;
        askedBySentence++;
        if (!holds) {
            wrong++;
            System.out.println(sentence + "not so: " + what);
        }
    }

    int wrongOnes() {
        return wrong;
    }

    void end() {
        System.out.println(asked + " answers, " + wrong + " wrong");
        if (wrong != 0 || asked == 0) {
            System.exit(1);
        }
    }

    /** Bytes from a place on, eight at most, as one number; the characters are 0 .. 255. */
    static long pack(String text, int from) {
        long bytes = 0;
        for (int i = from; i < text.length() && i < from + 8; i++) {
            bytes |= (long) (text.charAt(i) & 255) << 8 * (i - from);
        }
        return bytes;
    }

    static void write(DutiesHat x, String text) {
        for (int i = 0; i < text.length(); i += 8) {
            x.write(pack(text, i), Math.min(8, text.length() - i));
        }
    }

    /** Writes a text and has it done. */
    static DutiesHat tell(DutiesHat x, String text) {
        x.erase();
        write(x, text);
        int lines = x.hall();
        if (lines < 1) {
            throw new IllegalStateException("the text was refused with " + lines + ": " + text);
        }
        return x;
    }

    /** Tells what each monk likes each duty, a text for each monk. */
    static DutiesHat tellLikings(DutiesHat x, int[][] likings) {
        for (int m = 0; m < likings.length; m++) {
            StringBuilder text = new StringBuilder();
            for (int d = 0; d < likings[m].length; d++) {
                text.append(d == 0 ? "" : ";").append("like ").append(m).append(' ').append(d).append(' ')
                        .append(likings[m][d]);
            }
            tell(x, text.toString());
        }
        return x;
    }

    static DutiesHat told(String text) {
        return tell(new DutiesHat(), text);
    }

    /** The place of a text's fault in a new object of four monks. */
    static int faultOf(String text) {
        DutiesHat x = new DutiesHat();
        write(x, text);
        return x.fault();
    }
}
