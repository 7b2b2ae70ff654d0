/** Holds answers against those that are due, and ends a test with exit code 1 if one was not. */
final class Due {
    private final String test;
    private int asked = 0;
    private int wrong = 0;

    Due(String test) {
        this.test = test;
    }

    void due(String what, long got, long want) {
        asked++;
        if (got != want) {
            wrong++;
            System.out.println(test + ": " + what + " answered " + got + ", due is " + want);
        }
    }

    void end() {
        System.out.println(test + ": " + asked + " answers, " + wrong + " not as due");
        if (wrong != 0 || asked == 0) {
            System.exit(1);
        }
    }

    /** A text is typed on an empty tape and becomes the college; what college() answered. */
    static int college(YawnKeys x, String text) {
        for (int i = 0; i < text.length(); i++) {
            x.type(text.charAt(i));
        }
        return x.college();
    }

    static YawnKeys collegeOf(String text) {
        YawnKeys x = new YawnKeys();
        int people = college(x, text);
        if (people < 1) {
            throw new IllegalArgumentException(text + " is no college: " + people);
        }
        return x;
    }

    /** Everything but sheets and tape that the face can tell without changing it, as one text. */
    static String look(YawnKeys x) {
        StringBuilder seen = new StringBuilder();
        for (int what = 0; what < 8; what++) {
            seen.append(x.count(what)).append(' ');
        }
        for (int person = 0; person < x.count(0); person++) {
            seen.append("/ ").append(x.of(person, 0)).append(' ');
            for (int door = 0; door < 4; door++) {
                seen.append(x.wants(person, door)).append(' ');
            }
        }
        seen.append("; ");
        for (int door = 0; door < 4; door++) {
            seen.append(x.at(door, 0)).append(' ');
        }
        int draw = x.seed(0);
        x.seed(draw);
        return seen.append("draw ").append(draw).toString();
    }
}
