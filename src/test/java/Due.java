/** What the tests share: comparing answers with those that are due, and drawing in one call. */
final class Due {
    private int wrong = 0;
    private String sentence = "";

    /** Says which sentence of the document the comparisons behind it are about. */
    void about(String sentence) {
        this.sentence = "'" + sentence + "' ";
    }

    /** Compares an answer with the one that is due. */
    void is(String call, long got, long want) {
        if (got != want) {
            wrong++;
            System.out.println(sentence + call + " answered " + got + ", due is " + want);
        }
    }

    /** Compares what is seen of a pad with what is due to be seen. */
    void same(String when, String got, String want) {
        if (!got.equals(want)) {
            wrong(when + " there is " + got + ", due is " + want);
        }
    }

    /** Notes something wrong that is no answer. */
    void wrong(String what) {
        wrong++;
        System.out.println(sentence + what);
    }

    int wrongSoFar() {
        return wrong;
    }

    /** Ends the test: exit code 1 if something was wrong. */
    void end() {
        if (wrong != 0) {
            System.out.println(wrong + " wrong");
            System.exit(1);
        }
    }

    /** Puts points, given as x, y, x, y and so on, and draws them. */
    int draws(InkPad pad, int color, int... coordinates) {
        puts(pad, coordinates);
        return pad.draw(color);
    }

    /** Puts points; the buffer is asked once only, because a pad has just 512 calls. */
    void puts(InkPad pad, int... coordinates) {
        int before = pad.count(7);
        for (int i = 0; i < coordinates.length; i += 2) {
            int got = pad.put(coordinates[i], coordinates[i + 1]);
            if (got != before && got != before + 1) {
                wrong("put(" + coordinates[i] + ", " + coordinates[i + 1] + ") answered " + got);
            }
            before = got;
        }
    }

    /** Types a text into an emptied one and reads its points. */
    int reads(InkPad pad, String text) {
        types(pad, text);
        return pad.readPoints();
    }

    /** Types a text into an emptied one. */
    void types(InkPad pad, String text) {
        pad.clearText();
        for (int i = 0; i < text.length(); i++) {
            is("type at " + i + " of " + text, pad.type(text.charAt(i)), i + 1);
        }
    }

    /** Puts that many points in a row, each by one to the right of the one before. */
    void row(InkPad pad, int number, int x, int y) {
        int[] coordinates = new int[2 * number];
        for (int i = 0; i < number; i++) {
            coordinates[2 * i] = x + i;
            coordinates[2 * i + 1] = y;
        }
        puts(pad, coordinates);
    }

    /** Draws that many strokes of one point each, one below the other. */
    void column(InkPad pad, int number, int color, int x, int y) {
        for (int i = 0; i < number; i++) {
            int before = pad.count(0);
            is("draw of (" + x + ", " + (y + i) + ")", draws(pad, color, x, y + i), before);
        }
    }

    /** Compares the points of a stroke with those that are due, given as x, y, x, y and so on. */
    void points(String when, InkPad pad, int stroke, int... coordinates) {
        is(when + ": points of " + stroke, pad.stroke(stroke, 1), coordinates.length / 2);
        for (int i = 0; i < coordinates.length; i++) {
            is(when + ": point(" + stroke + ", " + i / 2 + ", " + i % 2 + ")",
                    pad.point(stroke, i / 2, i % 2), coordinates[i]);
        }
    }
}
