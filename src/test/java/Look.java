/** What is seen of a pad, as a text: two pads that are in the same state look the same. */
final class Look {
    private Look() {
    }

    /** The strokes with their colors and points. */
    static String strokes(InkPad pad) {
        StringBuilder text = new StringBuilder();
        int strokes = pad.count(0);
        for (int stroke = 0; stroke < strokes; stroke++) {
            text.append(stroke).append(" of ").append(pad.stroke(stroke, 0)).append(':');
            points(text, pad, stroke);
        }
        return text.toString();
    }

    private static void points(StringBuilder text, InkPad pad, int stroke) {
        int points = pad.stroke(stroke, 1);
        for (int i = 0; i < points; i++) {
            text.append(' ').append(pad.point(stroke, i, 0));
            text.append(',').append(pad.point(stroke, i, 1));
        }
        text.append("; ");
    }

    /** Strokes, history, buffer, text and gap. The pad is used up: its state is another one then. */
    static String through(InkPad pad) {
        StringBuilder text = new StringBuilder(strokes(pad));
        for (int what = 0; what <= 10; what++) {
            text.append("count ").append(what).append(": ").append(pad.count(what)).append("; ");
        }
        history(text, pad);
        buffer(text, pad);
        text.append("text ").append(pad.readPoints()).append("; ");
        buffer(text, pad);
        return text.append("of ").append(pad.clearText()).toString();
    }

    private static void history(StringBuilder text, InkPad pad) {
        for (int left = pad.undo(); left >= 0; left = pad.undo()) {
            state(text.append("undo ").append(left), pad);
        }
        for (int left = pad.redo(); left >= 0; left = pad.redo()) {
            state(text.append("redo ").append(left), pad);
        }
    }

    private static void state(StringBuilder text, InkPad pad) {
        for (int what = 0; what <= 2; what++) {
            text.append(' ').append(pad.count(what));
        }
        for (int color = 0; color <= 3; color++) {
            text.append(' ').append(pad.color(color, 1));
        }
        text.append("; ");
    }

    /** The points of the buffer can be seen only when they are drawn. */
    private static void buffer(StringBuilder text, InkPad pad) {
        if (pad.count(0) == 16) {
            pad.remove(15);
        }
        int drawn = pad.draw(0);
        text.append("buffer ").append(drawn);
        if (drawn >= 0) {
            points(text, pad, drawn);
        }
    }
}
