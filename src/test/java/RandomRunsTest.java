import java.util.Random;

/**
 * All promises: many runs of chosen calls, on the class and on the model, whose answers must be the
 * same. The seeds are fixed, so every run of the test is the same.
 */
public final class RandomRunsTest {
    private static final int RUNS = 1500;
    private static final int CALLS = 512;
    // A step makes no more calls than these, but for the characters that it types.
    private static final int STEP = 12;

    public static void main(String[] args) {
        Due due = new Due();
        for (int run = 0; run < RUNS && due.wrongSoFar() < 20; run++) {
            new RandomRunsTest(run, due).play();
        }
        due.end();
    }

    private final Random random;
    private final Due due;
    private final String name;
    private final InkPad pad = new InkPad();
    private final Model model = new Model();
    // Some runs stay in a corner, so that strokes meet; some seldom give wrong values.
    private final int span;
    private final int slip;
    private final int acts;
    private int calls = 0;

    private RandomRunsTest(int run, Due due) {
        this.random = new Random(run);
        this.due = due;
        this.name = "run " + run;
        this.span = new int[] {2, 4, 30, 120, 500, 1001}[run % 6];
        this.slip = new int[] {8, 60, 400}[run / 6 % 3];
        this.acts = new int[] {2, 6, 12}[run / 18 % 3];
    }

    private void play() {
        while (calls < CALLS - STEP && due.wrongSoFar() < 20) {
            int kind = random.nextInt(10);
            if (kind < acts) {
                act();
            } else if (kind < 7) {
                points();
            }
            ask();
        }
    }

    private void same(String call, int got, int want) {
        calls++;
        due.is(name + ", call " + calls + ": " + call, got, want);
    }

    /** Mostly a number from least to greatest, now and then one beside it. */
    private int some(int least, int greatest) {
        if (random.nextInt(slip) == 0) {
            int[] beside = {least - 1, greatest + 1, Integer.MIN_VALUE, Integer.MAX_VALUE, -greatest};
            return beside[random.nextInt(beside.length)];
        }
        return least + random.nextInt(Math.max(1, greatest - least + 1));
    }

    private int coordinate() {
        return random.nextInt(slip) == 0 ? some(0, 1000) : random.nextInt(span);
    }

    private int anyStroke() {
        return some(0, model.count(0) - 1);
    }

    private void points() {
        switch (random.nextInt(8)) {
            case 0, 1, 2, 3 -> {
                for (int i = random.nextInt(8); i >= 0; i--) {
                    int x = coordinate();
                    int y = coordinate();
                    same("put(" + x + ", " + y + ")", pad.put(x, y), model.put(x, y));
                }
                draw();
            }
            case 4, 5 -> {
                text();
                same("readPoints()", pad.readPoints(), model.readPoints());
                draw();
            }
            case 6 -> same("clearPoints()", pad.clearPoints(), model.clearPoints());
            default -> same("clearText()", pad.clearText(), model.clearText());
        }
    }

    private void draw() {
        if (random.nextInt(4) > 0) {
            int color = some(0, 3);
            same("draw(" + color + ")", pad.draw(color), model.draw(color));
        }
    }

    private void text() {
        if (random.nextInt(4) > 0) {
            same("clearText()", pad.clearText(), model.clearText());
        }
        StringBuilder text = new StringBuilder();
        for (int i = random.nextInt(random.nextInt(12) == 0 ? 30 : 4); i >= 0; i--) {
            text.append(random.nextInt(span)).append(',').append(random.nextInt(span)).append(' ');
        }
        if (random.nextInt(5) > 0) {
            text.setLength(text.length() - 1);
        }
        if (random.nextInt(3) == 0) {
            String signs = "0123456789, ,x\n" + (char) 255 + (char) 0x663;
            text.setCharAt(random.nextInt(text.length()), signs.charAt(random.nextInt(signs.length())));
        }
        for (int i = 0; i < text.length() && calls < CALLS - STEP; i++) {
            char sign = text.charAt(i);
            same("type((char) " + (int) sign + ")", pad.type(sign), model.type(sign));
        }
    }

    private void act() {
        int stroke = anyStroke();
        switch (random.nextInt(12)) {
            case 0, 1 -> {
                int x = coordinate();
                int y = coordinate();
                int radius = some(0, Math.min(500, random.nextBoolean() ? 1 + span / 4 : 500));
                same("rub(" + x + ", " + y + ", " + radius + ")",
                        pad.rub(x, y, radius), model.rub(x, y, radius));
            }
            case 2 -> {
                int rounds = some(1, 8);
                same("smooth(" + stroke + ", " + rounds + ")",
                        pad.smooth(stroke, rounds), model.smooth(stroke, rounds));
            }
            case 3 -> {
                int distance = some(1, Math.min(500, span));
                same("thin(" + stroke + ", " + distance + ")",
                        pad.thin(stroke, distance), model.thin(stroke, distance));
            }
            case 4, 5 -> {
                int other = anyStroke();
                same("join(" + stroke + ", " + other + ")",
                        pad.join(stroke, other), model.join(stroke, other));
            }
            case 6 -> {
                int reach = random.nextBoolean() ? 3 : 1000;
                int dx = some(-reach, reach);
                int dy = some(-reach, reach);
                same("shift(" + stroke + ", " + dx + ", " + dy + ")",
                        pad.shift(stroke, dx, dy), model.shift(stroke, dx, dy));
            }
            case 7 -> {
                int color = some(0, 3);
                same("paint(" + stroke + ", " + color + ")",
                        pad.paint(stroke, color), model.paint(stroke, color));
            }
            case 8 -> same("remove(" + stroke + ")", pad.remove(stroke), model.remove(stroke));
            case 9, 10 -> same("undo()", pad.undo(), model.undo());
            default -> same("redo()", pad.redo(), model.redo());
        }
    }

    private void ask() {
        int stroke = anyStroke();
        switch (random.nextInt(10)) {
            case 0, 1 -> {
                int what = some(0, 9);
                same("stroke(" + stroke + ", " + what + ")",
                        pad.stroke(stroke, what), model.stroke(stroke, what));
            }
            case 2 -> {
                int point = some(0, 5);
                int what = some(0, 1);
                same("point(" + stroke + ", " + point + ", " + what + ")",
                        pad.point(stroke, point, what), model.point(stroke, point, what));
            }
            case 3 -> same("read(" + stroke + ")", pad.read(stroke), model.read(stroke));
            case 4 -> {
                int line = some(0, model.count(3) - 1);
                int what = some(0, 4);
                same("line(" + line + ", " + what + ")", pad.line(line, what), model.line(line, what));
            }
            case 5 -> {
                int word = some(0, model.count(4) - 1);
                int what = some(0, 4);
                same("word(" + word + ", " + what + ")", pad.word(word, what), model.word(word, what));
            }
            case 6 -> {
                int x = coordinate();
                int y = coordinate();
                same("nearest(" + x + ", " + y + ")", pad.nearest(x, y), model.nearest(x, y));
                same("cell(" + x + ", " + y + ")", pad.cell(x, y), model.cell(x, y));
            }
            case 7 -> {
                int color = some(0, 3);
                int what = some(0, 3);
                same("color(" + color + ", " + what + ")",
                        pad.color(color, what), model.color(color, what));
            }
            case 8 -> {
                int what = some(0, 10);
                same("count(" + what + ")", pad.count(what), model.count(what));
            }
            default -> {
                int gap = some(0, random.nextBoolean() ? 9 : 500);
                same("setGap(" + gap + ")", pad.setGap(gap), model.setGap(gap));
            }
        }
    }
}
