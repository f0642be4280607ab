/** What the tests share: answers compared, and texts told letter by letter. */
final class Due {
    static final long REFUSED = 4000000000000000000L;

    private int wrong = 0;
    private String about = "";

    void about(String name) {
        about = name;
    }

    void is(String call, long got, long want) {
        if (got != want) {
            wrong++;
            System.out.println(about + ": " + call + " answered " + got + ", due is " + want);
        }
    }

    void isTrue(String what, boolean holds) {
        is(what, holds ? 1 : 0, 1);
    }

    void end() {
        System.out.println(wrong == 0 ? "all answers are as due" : wrong + " answers are not as due");
        if (wrong != 0) {
            System.exit(1);
        }
    }

    static int tell(TraverseClosed x, String text) {
        for (int i = 0; i < text.length(); i++) {
            x.letter(text.charAt(i));
        }
        return x.tells();
    }

    /** A traverse told in letters, without a fault. */
    static TraverseClosed of(String text) {
        TraverseClosed x = new TraverseClosed();
        if (tell(x, text) <= 0) {
            throw new IllegalArgumentException(text);
        }
        return x;
    }
}
