/** The edges of the errors: their constants, their order, and that they change nothing. */
public final class ErrorEdgesTest {
    /** A call on a pad, or the calls that make a pad ready. */
    private interface Call {
        int on(InkPad pad);
    }

    public static void main(String[] args) {
        Due due = new Due();
        constants(due);
        orderOfBuffer(due);
        orderOfDraw(due);
        orderOfRub(due);
        orderOfSmoothAndThin(due);
        orderOfJoin(due);
        orderOfShift(due);
        orderOfPaint(due);
        orderOfQuestions(due);
        noneOnlyWithoutErrors(due);
        refusedActsChangeNothing(due);
        refusedQuestionsChangeNothing(due);
        fullChangesNothing(due);
        emptyChangesNothing(due);
        questionsChangeNothing(due);
        lastOf512Calls(due);
        due.end();
    }

    private static void constants(Due due) {
        due.about("Errors are reported by the constants below.");
        due.is("UNKNOWN", InkPad.UNKNOWN, -1);
        due.is("BAD_VALUE", InkPad.BAD_VALUE, -2);
        due.is("FULL", InkPad.FULL, -3);
        due.is("NOT_POSSIBLE", InkPad.NOT_POSSIBLE, -4);
        due.is("NONE", InkPad.NONE, -5);
    }

    private static void order(Due due) {
        due.about("Where several errors can apply, the order of the @return line is the order of the "
                + "checks.");
    }

    private static InkPad full(Due due) {
        InkPad pad = new InkPad();
        due.column(pad, 16, 0, 100, 100);
        return pad;
    }

    private static void orderOfBuffer(Due due) {
        order(due);
        InkPad pad = new InkPad();
        due.row(pad, 24, 0, 0);
        due.is("put(1001, 0), no room", pad.put(1001, 0), InkPad.BAD_VALUE);
        due.is("put(0, -1), no room", pad.put(0, -1), InkPad.BAD_VALUE);
        due.is("put(0, 5), no room", pad.put(0, 5), InkPad.FULL);
    }

    private static void orderOfDraw(Due due) {
        order(due);
        InkPad pad = new InkPad();
        due.is("draw(4), nothing to draw", pad.draw(4), InkPad.BAD_VALUE);
        InkPad full = full(due);
        due.is("draw(-1), nothing to draw, no room", full.draw(-1), InkPad.BAD_VALUE);
        due.is("draw(0), nothing to draw, no room", full.draw(0), InkPad.NOT_POSSIBLE);
        due.puts(full, 1, 1);
        due.is("draw(4), no room", full.draw(4), InkPad.BAD_VALUE);
        due.is("draw(0), no room", full.draw(0), InkPad.FULL);
    }

    private static void orderOfRub(Due due) {
        order(due);
        InkPad pad = new InkPad();
        due.is("rub(-1, 0, 0), no point", pad.rub(-1, 0, 0), InkPad.BAD_VALUE);
        due.is("rub(0, 1001, 0), no point", pad.rub(0, 1001, 0), InkPad.BAD_VALUE);
        due.is("rub(0, 0, 501), no point", pad.rub(0, 0, 501), InkPad.BAD_VALUE);
        due.column(pad, 15, 0, 900, 900);
        due.draws(pad, 0, 1, 0, 0, 0, 0, 1);
        due.is("rub(0, 0, -1), no room", pad.rub(0, 0, -1), InkPad.BAD_VALUE);
        due.is("rub(-1, 0, 1), no room", pad.rub(-1, 0, 1), InkPad.BAD_VALUE);
        due.is("rub(0, 0, 0), no room", pad.rub(0, 0, 0), InkPad.FULL);
        due.is("rub(500, 500, 9), no room, no point", pad.rub(500, 500, 9), InkPad.NONE);
    }

    private static void orderOfSmoothAndThin(Due due) {
        order(due);
        InkPad pad = new InkPad();
        due.draws(pad, 0, 1, 1, 2, 2);
        due.is("smooth(1, 0)", pad.smooth(1, 0), InkPad.UNKNOWN);
        due.is("smooth(-1, 9)", pad.smooth(-1, 9), InkPad.UNKNOWN);
        due.is("smooth(0, 0), it would stay", pad.smooth(0, 0), InkPad.BAD_VALUE);
        due.is("smooth(0, 9), it would stay", pad.smooth(0, 9), InkPad.BAD_VALUE);
        due.is("thin(1, 0)", pad.thin(1, 0), InkPad.UNKNOWN);
        due.is("thin(-1, 501)", pad.thin(-1, 501), InkPad.UNKNOWN);
        due.is("thin(0, 0), it would stay", pad.thin(0, 0), InkPad.BAD_VALUE);
        due.is("thin(0, 501), it would stay", pad.thin(0, 501), InkPad.BAD_VALUE);
    }

    private static void orderOfJoin(Due due) {
        order(due);
        InkPad pad = new InkPad();
        due.is("join(0, 0), none there", pad.join(0, 0), InkPad.UNKNOWN);
        due.row(pad, 24, 0, 0);
        due.is("draw(0)", pad.draw(0), 0);
        due.is("join(-1, -1)", pad.join(-1, -1), InkPad.UNKNOWN);
        due.is("join(1, 1)", pad.join(1, 1), InkPad.UNKNOWN);
        due.is("join(0, 1), 24 points", pad.join(0, 1), InkPad.UNKNOWN);
        due.is("join(1, 0), 24 points", pad.join(1, 0), InkPad.UNKNOWN);
        due.is("join(0, 0), 48 points", pad.join(0, 0), InkPad.BAD_VALUE);
    }

    private static void orderOfShift(Due due) {
        order(due);
        InkPad pad = new InkPad();
        due.draws(pad, 0, 500, 500);
        due.is("shift(1, 1001, 0)", pad.shift(1, 1001, 0), InkPad.UNKNOWN);
        due.is("shift(1, 600, 0)", pad.shift(1, 600, 0), InkPad.UNKNOWN);
        due.is("shift(1, 0, 0)", pad.shift(1, 0, 0), InkPad.UNKNOWN);
        due.is("shift(0, 600, 1001), it would leave", pad.shift(0, 600, 1001), InkPad.BAD_VALUE);
        due.is("shift(0, -1001, 600), it would leave", pad.shift(0, -1001, 600), InkPad.BAD_VALUE);
        due.is("shift(0, 501, 0)", pad.shift(0, 501, 0), InkPad.NOT_POSSIBLE);
        due.is("shift(0, 0, 0)", pad.shift(0, 0, 0), InkPad.NONE);
    }

    private static void orderOfPaint(Due due) {
        order(due);
        InkPad pad = new InkPad();
        due.draws(pad, 0, 500, 500);
        due.is("paint(1, 4)", pad.paint(1, 4), InkPad.UNKNOWN);
        due.is("paint(-1, -1)", pad.paint(-1, -1), InkPad.UNKNOWN);
        due.is("paint(0, 4)", pad.paint(0, 4), InkPad.BAD_VALUE);
        due.is("paint(0, 0)", pad.paint(0, 0), InkPad.NONE);
    }

    private static void orderOfQuestions(Due due) {
        order(due);
        InkPad pad = new InkPad();
        due.draws(pad, 0, 500, 500);
        due.is("stroke(1, 10)", pad.stroke(1, 10), InkPad.UNKNOWN);
        due.is("stroke(-1, -1)", pad.stroke(-1, -1), InkPad.UNKNOWN);
        due.is("point(1, 0, 2)", pad.point(1, 0, 2), InkPad.UNKNOWN);
        due.is("point(0, 1, 2)", pad.point(0, 1, 2), InkPad.UNKNOWN);
        due.is("point(0, -1, -1)", pad.point(0, -1, -1), InkPad.UNKNOWN);
        due.is("point(-1, -1, -1)", pad.point(-1, -1, -1), InkPad.UNKNOWN);
        due.is("line(1, 5)", pad.line(1, 5), InkPad.UNKNOWN);
        due.is("line(-1, -1)", pad.line(-1, -1), InkPad.UNKNOWN);
        due.is("word(1, 5)", pad.word(1, 5), InkPad.UNKNOWN);
        due.is("word(-1, -1)", pad.word(-1, -1), InkPad.UNKNOWN);
    }

    private static void noneOnlyWithoutErrors(Due due) {
        due.about("NONE is returned only if no error applies.");
        InkPad pad = new InkPad();
        due.is("nearest(1001, 0), no strokes", pad.nearest(1001, 0), InkPad.BAD_VALUE);
        due.is("nearest(0, -1), no strokes", pad.nearest(0, -1), InkPad.BAD_VALUE);
        due.is("nearest(0, 0), no strokes", pad.nearest(0, 0), InkPad.NONE);
        due.is("read(-1), no strokes", pad.read(-1), InkPad.BAD_VALUE);
        due.is("read(0), no strokes", pad.read(0), InkPad.NONE);
        due.is("rub(0, 0, -1), no strokes", pad.rub(0, 0, -1), InkPad.BAD_VALUE);
        due.is("rub(0, 0, 0), no strokes", pad.rub(0, 0, 0), InkPad.NONE);
        due.is("shift(0, 0, 0), no strokes", pad.shift(0, 0, 0), InkPad.UNKNOWN);
        due.is("paint(0, 0), no strokes", pad.paint(0, 0), InkPad.UNKNOWN);
    }

    /** A call is refused on a pad; beside it, a pad made in the same way must look the same. */
    private static void refused(Due due, String name, int want, Call ready, Call call) {
        due.about("A call that reports an error or NONE changes nothing.");
        InkPad pad = new InkPad();
        InkPad beside = new InkPad();
        ready.on(pad);
        ready.on(beside);
        due.is(name, call.on(pad), want);
        due.same("after " + name, Look.through(pad), Look.through(beside));
    }

    /** A pad that has something of all: strokes, past, future, a buffer, a text, a gap. */
    private static int some(InkPad pad) {
        int[][] strokes = {{10, 10, 12, 10, 14, 10}, {40, 40, 40, 90}, {500, 500}};
        for (int[] points : strokes) {
            for (int i = 0; i < points.length; i += 2) {
                pad.put(points[i], points[i + 1]);
            }
            pad.draw(points.length / 2);
        }
        pad.paint(2, 0);
        pad.undo();
        pad.put(7, 8);
        pad.put(9, 8);
        pad.type('3');
        pad.type(',');
        pad.type('4');
        return pad.setGap(44);
    }

    private static void refusedSome(Due due, String name, int want, Call call) {
        refused(due, name, want, ErrorEdgesTest::some, call);
    }

    private static void refusedActsChangeNothing(Due due) {
        refusedSome(due, "put(1001, 5)", InkPad.BAD_VALUE, pad -> pad.put(1001, 5));
        refusedSome(due, "put(5, -1)", InkPad.BAD_VALUE, pad -> pad.put(5, -1));
        refusedSome(due, "draw(4)", InkPad.BAD_VALUE, pad -> pad.draw(4));
        refusedSome(due, "rub(-1, 10, 9)", InkPad.BAD_VALUE, pad -> pad.rub(-1, 10, 9));
        refusedSome(due, "rub(10, 1001, 9)", InkPad.BAD_VALUE, pad -> pad.rub(10, 1001, 9));
        refusedSome(due, "rub(10, 10, 501)", InkPad.BAD_VALUE, pad -> pad.rub(10, 10, 501));
        refusedSome(due, "rub(10, 10, -1)", InkPad.BAD_VALUE, pad -> pad.rub(10, 10, -1));
        refusedSome(due, "rub(900, 900, 9)", InkPad.NONE, pad -> pad.rub(900, 900, 9));
        refusedSome(due, "smooth(3, 1)", InkPad.UNKNOWN, pad -> pad.smooth(3, 1));
        refusedSome(due, "smooth(0, 9)", InkPad.BAD_VALUE, pad -> pad.smooth(0, 9));
        refusedSome(due, "smooth(0, 8)", InkPad.NONE, pad -> pad.smooth(0, 8));
        refusedSome(due, "thin(3, 1)", InkPad.UNKNOWN, pad -> pad.thin(3, 1));
        refusedSome(due, "thin(0, 501)", InkPad.BAD_VALUE, pad -> pad.thin(0, 501));
        refusedSome(due, "thin(0, 2)", InkPad.NONE, pad -> pad.thin(0, 2));
        refusedSome(due, "join(0, 3)", InkPad.UNKNOWN, pad -> pad.join(0, 3));
        refusedSome(due, "join(3, 0)", InkPad.UNKNOWN, pad -> pad.join(3, 0));
        refusedSome(due, "join(1, 1)", InkPad.BAD_VALUE, pad -> pad.join(1, 1));
        refusedSome(due, "shift(3, 1, 1)", InkPad.UNKNOWN, pad -> pad.shift(3, 1, 1));
        refusedSome(due, "shift(0, 1, 1001)", InkPad.BAD_VALUE, pad -> pad.shift(0, 1, 1001));
        refusedSome(due, "shift(0, 987, 1)", InkPad.NOT_POSSIBLE, pad -> pad.shift(0, 987, 1));
        refusedSome(due, "shift(0, 0, 0)", InkPad.NONE, pad -> pad.shift(0, 0, 0));
        refusedSome(due, "paint(3, 1)", InkPad.UNKNOWN, pad -> pad.paint(3, 1));
        refusedSome(due, "paint(0, 4)", InkPad.BAD_VALUE, pad -> pad.paint(0, 4));
        refusedSome(due, "paint(0, 3)", InkPad.NONE, pad -> pad.paint(0, 3));
        refusedSome(due, "remove(3)", InkPad.UNKNOWN, pad -> pad.remove(3));
        refusedSome(due, "setGap(501)", InkPad.BAD_VALUE, pad -> pad.setGap(501));
        refusedSome(due, "setGap(-1)", InkPad.BAD_VALUE, pad -> pad.setGap(-1));
    }

    private static void refusedQuestionsChangeNothing(Due due) {
        refusedSome(due, "stroke(3, 0)", InkPad.UNKNOWN, pad -> pad.stroke(3, 0));
        refusedSome(due, "stroke(0, 10)", InkPad.BAD_VALUE, pad -> pad.stroke(0, 10));
        refusedSome(due, "point(0, 3, 0)", InkPad.UNKNOWN, pad -> pad.point(0, 3, 0));
        refusedSome(due, "point(0, 0, 2)", InkPad.BAD_VALUE, pad -> pad.point(0, 0, 2));
        refusedSome(due, "read(-1)", InkPad.BAD_VALUE, pad -> pad.read(-1));
        refusedSome(due, "read(3)", InkPad.NONE, pad -> pad.read(3));
        refusedSome(due, "line(3, 0)", InkPad.UNKNOWN, pad -> pad.line(3, 0));
        refusedSome(due, "line(0, 5)", InkPad.BAD_VALUE, pad -> pad.line(0, 5));
        refusedSome(due, "word(3, 0)", InkPad.UNKNOWN, pad -> pad.word(3, 0));
        refusedSome(due, "word(0, 5)", InkPad.BAD_VALUE, pad -> pad.word(0, 5));
        refusedSome(due, "nearest(1001, 0)", InkPad.BAD_VALUE, pad -> pad.nearest(1001, 0));
        refusedSome(due, "cell(0, 1001)", InkPad.BAD_VALUE, pad -> pad.cell(0, 1001));
        refusedSome(due, "color(4, 0)", InkPad.BAD_VALUE, pad -> pad.color(4, 0));
        refusedSome(due, "count(11)", InkPad.BAD_VALUE, pad -> pad.count(11));
    }

    private static void fullChangesNothing(Due due) {
        Call fullBuffer = pad -> {
            some(pad);
            for (int i = 2; i < 24; i++) {
                pad.put(100 + i, 5);
            }
            return 0;
        };
        refused(due, "put(5, 5), no room", InkPad.FULL, fullBuffer, pad -> pad.put(5, 5));
        Call fullText = pad -> {
            some(pad);
            for (int i = 3; i < 100; i++) {
                pad.type("3,4 ".charAt(i % 4));
            }
            return 0;
        };
        refused(due, "type('9'), no room", InkPad.FULL, fullText, pad -> pad.type('9'));
        Call sixteen = pad -> {
            some(pad);
            for (int i = 3; i < 16; i++) {
                pad.put(600, i);
                pad.draw(1);
            }
            pad.undo();
            pad.redo();
            pad.put(7, 8);
            return 0;
        };
        refused(due, "draw(0), no room", InkPad.FULL, sixteen, pad -> pad.draw(0));
        refused(due, "rub(12, 10, 1), no room", InkPad.FULL, sixteen, pad -> pad.rub(12, 10, 1));
        Call longStrokes = pad -> {
            some(pad);
            for (int stroke = 0; stroke < 2; stroke++) {
                for (int i = 0; i < 15; i++) {
                    pad.put(300 + i, 300 + stroke);
                }
                pad.draw(1);
            }
            return pad.undo() + pad.redo();
        };
        refused(due, "join(3, 4), no room", InkPad.FULL, longStrokes, pad -> pad.join(3, 4));
        refused(due, "join(4, 3), no room", InkPad.FULL, longStrokes, pad -> pad.join(4, 3));
    }

    private static void emptyChangesNothing(Due due) {
        Call noBuffer = pad -> some(pad) + pad.clearPoints();
        refused(due, "draw(0) of nothing", InkPad.NOT_POSSIBLE, noBuffer, pad -> pad.draw(0));
        Call noPast = pad -> some(pad) + pad.undo() + pad.undo() + pad.undo();
        refused(due, "undo() of nothing", InkPad.NONE, noPast, InkPad::undo);
        refused(due, "nearest(0, 0) of none", InkPad.NONE, noPast, pad -> pad.nearest(0, 0));
        Call noFuture = pad -> some(pad) + pad.redo();
        refused(due, "redo() of nothing", InkPad.NONE, noFuture, InkPad::redo);
        Call fault = pad -> some(pad) + pad.type(' ');
        refused(due, "readPoints() with a fault", -104, fault, InkPad::readPoints);
        Call late = pad -> some(pad) + pad.type(' ') + pad.type('5') + pad.type(',') + pad.type('x');
        refused(due, "readPoints() with a late fault", -106, late, InkPad::readPoints);
    }

    private static void questionsChangeNothing(Due due) {
        due.about("Nothing is promised beyond the answers and state changes described above,");
        InkPad pad = new InkPad();
        InkPad beside = new InkPad();
        some(pad);
        some(beside);
        for (int what = 0; what <= 10; what++) {
            for (int stroke = 0; stroke < 3; stroke++) {
                pad.stroke(stroke, what);
            }
            pad.line(0, what);
            pad.word(0, what);
            pad.color(what % 4, what % 5);
            pad.count(what);
            pad.read(what);
            pad.nearest(what * 90, 9);
            pad.cell(9, what * 90);
            pad.point(0, what % 3, what % 2);
        }
        due.same("after all questions", Look.through(pad), Look.through(beside));
    }

    private static void lastOf512Calls(Due due) {
        due.about("An object is used for at most 512 calls after it has been made;");
        InkPad pad = new InkPad();
        for (int call = 1; call <= 510; call++) {
            int number = call / 3;
            switch (call % 3) {
                case 1 -> due.is("call " + call + ": put", pad.put(number, 7), 1);
                case 2 -> due.is("call " + call + ": draw", pad.draw(1), 0);
                default -> due.is("call " + call + ": remove", pad.remove(0), 0);
            }
        }
        due.is("call 511: undo()", pad.undo(), 5);
        due.is("call 512: stroke(0, 2)", pad.stroke(0, 2), 169);
    }
}
