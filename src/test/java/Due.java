/** What the tests share: comparing answers with those that are due, and drawing in one call. */
final class Due {
    private int wrong = 0;

    /** Compares an answer with the one that is due. */
    void is(String call, long got, long want) {
        if (got != want) {
            wrong++;
            System.out.println(call + " answered " + got + ", due is " + want);
        }
    }

    /** Notes something wrong that is no answer. */
    void wrong(String what) {
        wrong++;
        System.out.println(what);
    }

    int wrongSoFar() {
        return wrong;
    }

    /** Ends the test: exit code 1 if something was wrong. */
    void end() {
        if (wrong != 0) {
            System.out.println(wrong + " wrong");
            System.exit(1);
        }
    }

    /** Puts points, given as x, y, x, y and so on, and draws them. */
    int draws(InkPad pad, int color, int... coordinates) {
        puts(pad, coordinates);
        return pad.draw(color);
    }

    void puts(InkPad pad, int... coordinates) {
        for (int i = 0; i < coordinates.length; i += 2) {
            int before = pad.count(7);
            int got = pad.put(coordinates[i], coordinates[i + 1]);
            if (got != before && got != before + 1) {
                wrong("put(" + coordinates[i] + ", " + coordinates[i + 1] + ") answered " + got);
            }
        }
    }

    /** Types a text into an emptied one and reads its points. */
    int reads(InkPad pad, String text) {
        pad.clearText();
        for (int i = 0; i < text.length(); i++) {
            is("type at " + i + " of " + text, pad.type(text.charAt(i)), i + 1);
        }
        return pad.readPoints();
    }

    /** Compares the points of a stroke with those that are due, given as x, y, x, y and so on. */
    void points(String when, InkPad pad, int stroke, int... coordinates) {
        is(when + ": points of " + stroke, pad.stroke(stroke, 1), coordinates.length / 2);
        for (int i = 0; i < coordinates.length; i++) {
            is(when + ": point(" + stroke + ", " + i / 2 + ", " + i % 2 + ")",
                    pad.point(stroke, i / 2, i % 2), coordinates[i]);
        }
    }
}
