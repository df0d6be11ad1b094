/** Compares answers with those that are due, prints the unlike ones, and ends the test. */
final class Due {
    interface Call {
        Object answer();
    }

    private int wrong = 0;
    private int asked = 0;
    private int sentences = 0;
    private String sentence = "";

    /** All that is asked from here on holds one sentence of the document, told in its own words. */
    void sentence(String place, String words) {
        sentences++;
        sentence = place + ", \"" + words + "\": ";
    }

    void is(Object want, String call, Call made) {
        String got = told(made);
        asked++;
        if (!got.equals(String.valueOf(want))) {
            wrong++;
            System.out.println(sentence + call + " answered " + got + ", due is " + want);
        }
    }

    void noSuchElement(String call, Call made) {
        is("throws.NoSuchElementException", call, made);
    }

    void illegalArgument(String call, Call made) {
        is("throws.IllegalArgumentException", call, made);
    }

    void illegalState(String call, Call made) {
        is("throws.IllegalStateException", call, made);
    }

    /** The answer as a text, or the name of the exception that the call throws. */
    static String told(Call made) {
        try {
            return String.valueOf(made.answer());
        } catch (RuntimeException e) {
            return "throws." + e.getClass().getSimpleName();
        }
    }

    void end() {
        System.out.println(sentences + " sentences, " + asked + " answers asked, " + wrong + " wrong");
        if (wrong != 0 || asked == 0) {
            System.exit(1);
        }
    }
}
