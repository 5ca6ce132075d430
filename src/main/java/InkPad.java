/**
 * A pad for strokes of ink: strokes are drawn from points, rubbed out in parts so that they split,
 * smoothed and thinned in whole numbers, joined and moved; they are grouped to lines by their
 * heights and to words by gaps; cells that have ink are counted; all can be undone and done again.
 *
 * <p>All rows are made with the object and used again, so that no call makes anything new.
 */
public final class InkPad {
    /** There is no such stroke, point, line or word. */
    public static final int UNKNOWN = -1;
    /** Another argument is out of range. */
    public static final int BAD_VALUE = -2;
    /** There is no more room. */
    public static final int FULL = -3;
    /** This is not possible. */
    public static final int NOT_POSSIBLE = -4;
    /** There is no such thing; not an error. */
    public static final int NONE = -5;

    private static final int MAX_COORDINATE = 1000;
    private static final int MAX_POINTS = 24;
    private static final int MAX_STROKES = 16;
    private static final int MAX_COLOR = 3;
    private static final int MAX_REACH = 500;
    private static final int MAX_ROUNDS = 8;
    private static final int MAX_STATES = 6;
    private static final int MAX_TEXT = 100;
    private static final int MAX_DIGITS = 4;
    private static final int FIRST_GAP = 20;
    private static final int FAULTS = -100;
    private static final int NO_FAULT = -1;
    private static final int ANY_COLOR = -1;
    private static final int CELL_SIDE = 10;
    private static final int CELLS_IN_A_ROW = MAX_COORDINATE / CELL_SIDE + 1;

    // What a sheet's row holds of one stroke, and from where on.
    private static final int COLOR_AT = 0;
    private static final int SIZE_AT = 1;
    private static final int XS_AT = 2;
    private static final int YS_AT = XS_AT + MAX_POINTS;
    private static final int ROW = YS_AT + MAX_POINTS;
    private static final int SHEET = MAX_STROKES * ROW;

    private final Trail buffer;
    private final Text text;
    private final Sheet present;
    private final Sheet draft;
    private final Trail work;
    private final History history;
    private final Lines lines;
    private final Words words;
    private final Tally tally;
    private int gap;

    /** Creates an empty pad. */
    public InkPad() {
        buffer = new Trail();
        text = new Text();
        present = new Sheet();
        draft = new Sheet();
        work = new Trail();
        history = new History();
        lines = new Lines();
        words = new Words();
        tally = new Tally();
        gap = FIRST_GAP;
    }

    // ---- buffer and text

    /** Adds a point to the buffer. */
    public int put(int x, int y) {
        if (!isCoordinate(x) || !isCoordinate(y)) {
            return BAD_VALUE;
        }
        if (buffer.size >= MAX_POINTS) {
            return FULL;
        }
        buffer.append(x, y);
        return buffer.size;
    }

    /** Empties the buffer. */
    public int clearPoints() {
        int before = buffer.size;
        buffer.empty();
        return before;
    }

    /** Appends a character to the text. */
    public int type(char character) {
        if (text.length >= MAX_TEXT) {
            return FULL;
        }
        text.append(character);
        return text.length;
    }

    /** Empties the text. */
    public int clearText() {
        int before = text.length;
        text.empty();
        return before;
    }

    /** Makes the points of the text those of the buffer. */
    public int readPoints() {
        // A text with a fault must leave the buffer alone, so the points go to a trail apart first.
        int fault = text.parse(work);
        if (fault != NO_FAULT) {
            return FAULTS - fault;
        }
        buffer.copy(work);
        return buffer.size;
    }

    // ---- acts

    /** Draws a stroke with the points of the buffer, which is empty then. */
    public int draw(int color) {
        if (!isColor(color)) {
            return BAD_VALUE;
        }
        if (buffer.size == 0) {
            return NOT_POSSIBLE;
        }
        if (!present.append(color, buffer)) {
            return FULL;
        }
        buffer.empty();
        history.record(present);
        return present.strokes - 1;
    }

    /** Rubs out a circle. */
    public int rub(int x, int y, int radius) {
        if (!isCoordinate(x) || !isCoordinate(y) || !isWithin(radius, 0, MAX_REACH)) {
            return BAD_VALUE;
        }
        draft.empty();
        boolean fits = true;
        int rubbed = 0;
        for (int stroke = 0; stroke < present.strokes; stroke++) {
            work.empty();
            for (int i = 0; i < present.size(stroke); i++) {
                int pointX = present.x(stroke, i);
                int pointY = present.y(stroke, i);
                if (square(pointX - x, pointY - y) <= radius * radius) {
                    rubbed++;
                    fits = endPart(present.colorOf(stroke)) && fits;
                } else {
                    work.append(pointX, pointY);
                }
            }
            fits = endPart(present.colorOf(stroke)) && fits;
        }
        if (!fits) {
            return FULL;
        }
        if (rubbed == 0) {
            return NONE;
        }
        present.copy(draft);
        history.record(present);
        return rubbed;
    }

    /** Smooths a stroke. */
    public int smooth(int stroke, int rounds) {
        if (!present.has(stroke)) {
            return UNKNOWN;
        }
        if (!isWithin(rounds, 1, MAX_ROUNDS)) {
            return BAD_VALUE;
        }
        work.take(present, stroke);
        for (int round = 0; round < rounds; round++) {
            work.smoothOnce();
        }
        work.dropRepeats();
        return replace(stroke);
    }

    /** Thins a stroke. */
    public int thin(int stroke, int distance) {
        if (!present.has(stroke)) {
            return UNKNOWN;
        }
        if (!isWithin(distance, 1, MAX_REACH)) {
            return BAD_VALUE;
        }
        work.take(present, stroke);
        work.dropNear(distance);
        return replace(stroke);
    }

    /** Appends the points of a stroke to another one. */
    public int join(int stroke, int other) {
        if (!present.has(stroke) || !present.has(other)) {
            return UNKNOWN;
        }
        if (stroke == other) {
            return BAD_VALUE;
        }
        work.take(present, stroke);
        int first = work.isLast(present.x(other, 0), present.y(other, 0)) ? 1 : 0;
        int added = present.size(other) - first;
        if (work.size + added > MAX_POINTS) {
            return FULL;
        }
        for (int i = first; i < present.size(other); i++) {
            work.append(present.x(other, i), present.y(other, i));
        }
        present.set(stroke, present.colorOf(stroke), work);
        present.drop(other);
        history.record(present);
        return other < stroke ? stroke - 1 : stroke;
    }

    /** Moves a stroke. */
    public int shift(int stroke, int dx, int dy) {
        if (!present.has(stroke)) {
            return UNKNOWN;
        }
        if (!isWithin(dx, -MAX_COORDINATE, MAX_COORDINATE)
                || !isWithin(dy, -MAX_COORDINATE, MAX_COORDINATE)) {
            return BAD_VALUE;
        }
        if (!isCoordinate(present.left(stroke) + dx) || !isCoordinate(present.right(stroke) + dx)
                || !isCoordinate(present.top(stroke) + dy)
                || !isCoordinate(present.bottom(stroke) + dy)) {
            return NOT_POSSIBLE;
        }
        if (dx == 0 && dy == 0) {
            return NONE;
        }
        work.empty();
        for (int i = 0; i < present.size(stroke); i++) {
            work.append(present.x(stroke, i) + dx, present.y(stroke, i) + dy);
        }
        return replace(stroke);
    }

    /** Sets the color of a stroke. */
    public int paint(int stroke, int color) {
        if (!present.has(stroke)) {
            return UNKNOWN;
        }
        if (!isColor(color)) {
            return BAD_VALUE;
        }
        int before = present.colorOf(stroke);
        if (before == color) {
            return NONE;
        }
        present.setColor(stroke, color);
        history.record(present);
        return before;
    }

    /** Removes a stroke. */
    public int remove(int stroke) {
        if (!present.has(stroke)) {
            return UNKNOWN;
        }
        present.drop(stroke);
        history.record(present);
        return present.strokes;
    }

    /** Undoes the latest act. */
    public int undo() {
        if (history.past == 0) {
            return NONE;
        }
        history.stepBack(present);
        return history.past;
    }

    /** Does again what was undone last. */
    public int redo() {
        if (history.future == 0) {
            return NONE;
        }
        history.stepOn(present);
        return history.future;
    }

    // ---- what there is

    /** Tells a property of a stroke. */
    public int stroke(int stroke, int what) {
        if (!present.has(stroke)) {
            return UNKNOWN;
        }
        switch (what) {
            case 0: return present.colorOf(stroke);
            case 1: return present.size(stroke);
            case 2: return present.left(stroke);
            case 3: return present.right(stroke);
            case 4: return present.top(stroke);
            case 5: return present.bottom(stroke);
            case 6: return present.length(stroke);
            case 7:
                layOut();
                return lines.lineOf[stroke];
            case 8:
                layOut();
                return words.wordOf[stroke];
            case 9:
                layOut();
                return words.placeOf[stroke];
            default: return BAD_VALUE;
        }
    }

    /** Tells a coordinate of a point of a stroke. */
    public int point(int stroke, int point, int what) {
        if (!present.has(stroke) || !isWithin(point, 0, present.size(stroke) - 1)) {
            return UNKNOWN;
        }
        switch (what) {
            case 0: return present.x(stroke, point);
            case 1: return present.y(stroke, point);
            default: return BAD_VALUE;
        }
    }

    /** Tells the stroke at a place of the reading order. */
    public int read(int place) {
        if (place < 0) {
            return BAD_VALUE;
        }
        if (place >= present.strokes) {
            return NONE;
        }
        layOut();
        return words.order[place];
    }

    /** Tells a property of a line. */
    public int line(int line, int what) {
        layOut();
        if (!isWithin(line, 0, lines.number - 1)) {
            return UNKNOWN;
        }
        switch (what) {
            case 0: return lines.tops[line];
            case 1: return lines.bottoms[line];
            case 2: return lines.sizes[line];
            case 3: return words.wordsIn[line];
            case 4: return words.firstIn[line];
            default: return BAD_VALUE;
        }
    }

    /** Tells a property of a word. */
    public int word(int word, int what) {
        layOut();
        if (!isWithin(word, 0, words.number - 1)) {
            return UNKNOWN;
        }
        switch (what) {
            case 0: return words.lines[word];
            case 1: return words.sizes[word];
            case 2: return words.lefts[word];
            case 3: return words.rights[word];
            case 4: return words.firsts[word];
            default: return BAD_VALUE;
        }
    }

    /** Sets the gap. */
    public int setGap(int gap) {
        if (!isWithin(gap, 0, MAX_REACH)) {
            return BAD_VALUE;
        }
        int before = this.gap;
        this.gap = gap;
        return before;
    }

    /** Finds the stroke with the point that is nearest to a place. */
    public int nearest(int x, int y) {
        if (!isCoordinate(x) || !isCoordinate(y)) {
            return BAD_VALUE;
        }
        int found = NONE;
        int least = 0;
        for (int stroke = 0; stroke < present.strokes; stroke++) {
            for (int i = 0; i < present.size(stroke); i++) {
                int distance = square(present.x(stroke, i) - x, present.y(stroke, i) - y);
                if (found == NONE || distance < least) {
                    found = stroke;
                    least = distance;
                }
            }
        }
        return found;
    }

    /** Counts the points of strokes in the cell of a point. */
    public int cell(int x, int y) {
        if (!isCoordinate(x) || !isCoordinate(y)) {
            return BAD_VALUE;
        }
        int wanted = cellOf(x, y);
        int found = 0;
        for (int stroke = 0; stroke < present.strokes; stroke++) {
            for (int i = 0; i < present.size(stroke); i++) {
                if (cellOf(present.x(stroke, i), present.y(stroke, i)) == wanted) {
                    found++;
                }
            }
        }
        return found;
    }

    /** Tells a number of a color. */
    public int color(int color, int what) {
        if (!isColor(color)) {
            return BAD_VALUE;
        }
        switch (what) {
            case 0: return present.strokesOf(color);
            case 1: return present.pointsOf(color);
            case 2: return present.lengthsOf(color);
            case 3:
                tally.take(present, color);
                return tally.cells;
            default: return BAD_VALUE;
        }
    }

    /** Tells a number of the whole pad. */
    public int count(int what) {
        switch (what) {
            case 0: return present.strokes;
            case 1: return present.pointsOf(ANY_COLOR);
            case 2: return present.lengthsOf(ANY_COLOR);
            case 3:
                layOut();
                return lines.number;
            case 4:
                layOut();
                return words.number;
            case 5:
                tally.take(present, ANY_COLOR);
                return tally.cells;
            case 6:
                tally.take(present, ANY_COLOR);
                return tally.most;
            case 7: return buffer.size;
            case 8: return history.past;
            case 9: return history.future;
            case 10: return gap;
            default: return BAD_VALUE;
        }
    }

    // ---- parts of the acts

    /** Puts the part of a stroke that was gathered into the draft; false if it has no room. */
    private boolean endPart(int color) {
        if (work.size == 0) {
            return true;
        }
        boolean fits = draft.append(color, work);
        work.empty();
        return fits;
    }

    /** Gives a stroke the points that were worked out for it, as an act, unless it has them. */
    private int replace(int stroke) {
        if (present.isSame(stroke, work)) {
            return NONE;
        }
        present.set(stroke, present.colorOf(stroke), work);
        history.record(present);
        return work.size;
    }

    /** Groups the present strokes anew: strokes and gap may have changed since the last time. */
    private void layOut() {
        lines.group(present);
        words.group(present, lines, gap);
    }

    // ---- numbers

    private static boolean isWithin(int value, int least, int greatest) {
        return value >= least && value <= greatest;
    }

    private static boolean isCoordinate(int value) {
        return isWithin(value, 0, MAX_COORDINATE);
    }

    private static boolean isColor(int value) {
        return isWithin(value, 0, MAX_COLOR);
    }

    private static int square(int dx, int dy) {
        return dx * dx + dy * dy;
    }

    private static int cellOf(int x, int y) {
        return y / CELL_SIDE * CELLS_IN_A_ROW + x / CELL_SIDE;
    }

    /** The greatest integer whose square is at most a number, which is below 2 to the 28th here. */
    private static int root(int number) {
        int found = 0;
        for (int bit = 1 << 13; bit > 0; bit >>= 1) {
            int tried = found + bit;
            if (tried * tried <= number) {
                found = tried;
            }
        }
        return found;
    }

    /** A sequence of up to 24 points, none of them the same as the one before it. */
    private static final class Trail {
        int size;
        final int[] xs = new int[MAX_POINTS];
        final int[] ys = new int[MAX_POINTS];

        void empty() {
            size = 0;
        }

        boolean isLast(int x, int y) {
            return size > 0 && xs[size - 1] == x && ys[size - 1] == y;
        }

        /** Adds a point; one that is the same as the last one is left out. */
        void append(int x, int y) {
            if (size < MAX_POINTS && !isLast(x, y)) {
                xs[size] = x;
                ys[size] = y;
                size++;
            }
        }

        void copy(Trail other) {
            size = other.size;
            System.arraycopy(other.xs, 0, xs, 0, MAX_POINTS);
            System.arraycopy(other.ys, 0, ys, 0, MAX_POINTS);
        }

        void take(Sheet sheet, int stroke) {
            size = 0;
            for (int i = 0; i < sheet.size(stroke); i++) {
                append(sheet.x(stroke, i), sheet.y(stroke, i));
            }
        }

        /** One round: the old point before is kept aside, because the row already holds the new. */
        void smoothOnce() {
            int beforeX = xs[0];
            int beforeY = ys[0];
            for (int i = 1; i < size - 1; i++) {
                int x = xs[i];
                int y = ys[i];
                xs[i] = (beforeX + 2 * x + xs[i + 1]) / 4;
                ys[i] = (beforeY + 2 * y + ys[i + 1]) / 4;
                beforeX = x;
                beforeY = y;
            }
        }

        void dropRepeats() {
            int all = size;
            size = 0;
            for (int i = 0; i < all; i++) {
                append(xs[i], ys[i]);
            }
        }

        /** Drops inner points that are too near; a last point that repeats then is not appended. */
        void dropNear(int distance) {
            int last = size - 1;
            if (last < 1) {
                return;
            }
            size = 1;
            for (int i = 1; i < last; i++) {
                if (square(xs[i] - xs[size - 1], ys[i] - ys[size - 1]) >= distance * distance) {
                    append(xs[i], ys[i]);
                }
            }
            append(xs[last], ys[last]);
        }
    }

    /** The text, and the reading of points from it. */
    private static final class Text {
        int length;
        private final char[] signs = new char[MAX_TEXT];

        void empty() {
            length = 0;
        }

        void append(char sign) {
            if (length < MAX_TEXT) {
                signs[length] = sign;
                length++;
            }
        }

        /** Reads the points of the text into a trail; answers the fault, or NO_FAULT. */
        int parse(Trail trail) {
            trail.empty();
            int points = 0;
            int x = 0;
            boolean inY = false;
            int number = 0;
            int digits = 0;
            for (int i = 0; i < length; i++) {
                char sign = signs[i];
                if (isDigit(sign)) {
                    if (digits == MAX_DIGITS) {
                        return i;
                    }
                    number = number * 10 + (sign - '0');
                    digits++;
                } else {
                    // The number ends here, so it is judged before the sign behind it.
                    if (number > MAX_COORDINATE) {
                        return i - digits;
                    }
                    boolean mayFollow = inY ? sign == ' ' && points < MAX_POINTS - 1 : sign == ',';
                    if (digits == 0 || !mayFollow) {
                        return i;
                    }
                    if (inY) {
                        trail.append(x, number);
                        points++;
                    } else {
                        x = number;
                    }
                    inY = !inY;
                    number = 0;
                    digits = 0;
                }
            }
            if (number > MAX_COORDINATE) {
                return length - digits;
            }
            if (digits == 0 || !inY) {
                return length;
            }
            trail.append(x, number);
            return NO_FAULT;
        }

        private static boolean isDigit(char sign) {
            return sign >= '0' && sign <= '9';
        }
    }

    /** All strokes of one state, each in a row of its own: its color, its size, its xs, its ys. */
    private static final class Sheet {
        int strokes;
        final int[] rows = new int[SHEET];

        void empty() {
            strokes = 0;
        }

        void copy(Sheet other) {
            strokes = other.strokes;
            System.arraycopy(other.rows, 0, rows, 0, SHEET);
        }

        boolean has(int stroke) {
            return stroke >= 0 && stroke < strokes;
        }

        int colorOf(int stroke) {
            return rows[stroke * ROW + COLOR_AT];
        }

        int size(int stroke) {
            return rows[stroke * ROW + SIZE_AT];
        }

        int x(int stroke, int point) {
            return rows[stroke * ROW + XS_AT + point];
        }

        int y(int stroke, int point) {
            return rows[stroke * ROW + YS_AT + point];
        }

        void setColor(int stroke, int color) {
            rows[stroke * ROW + COLOR_AT] = color;
        }

        void set(int stroke, int color, Trail trail) {
            int row = stroke * ROW;
            rows[row + COLOR_AT] = color;
            rows[row + SIZE_AT] = trail.size;
            System.arraycopy(trail.xs, 0, rows, row + XS_AT, MAX_POINTS);
            System.arraycopy(trail.ys, 0, rows, row + YS_AT, MAX_POINTS);
        }

        /** Adds a stroke behind the others; false if there is no room for it. */
        boolean append(int color, Trail trail) {
            if (strokes >= MAX_STROKES) {
                return false;
            }
            set(strokes, color, trail);
            strokes++;
            return true;
        }

        void drop(int stroke) {
            if (has(stroke)) {
                int behind = strokes - stroke - 1;
                System.arraycopy(rows, (stroke + 1) * ROW, rows, stroke * ROW, behind * ROW);
                strokes--;
            }
        }

        boolean isSame(int stroke, Trail trail) {
            if (size(stroke) != trail.size) {
                return false;
            }
            for (int i = 0; i < trail.size; i++) {
                if (x(stroke, i) != trail.xs[i] || y(stroke, i) != trail.ys[i]) {
                    return false;
                }
            }
            return true;
        }

        int left(int stroke) {
            return leastFrom(stroke * ROW + XS_AT, size(stroke));
        }

        int right(int stroke) {
            return greatestFrom(stroke * ROW + XS_AT, size(stroke));
        }

        int top(int stroke) {
            return leastFrom(stroke * ROW + YS_AT, size(stroke));
        }

        int bottom(int stroke) {
            return greatestFrom(stroke * ROW + YS_AT, size(stroke));
        }

        private int leastFrom(int first, int number) {
            int least = rows[first];
            for (int i = 1; i < number; i++) {
                least = Math.min(least, rows[first + i]);
            }
            return least;
        }

        private int greatestFrom(int first, int number) {
            int greatest = rows[first];
            for (int i = 1; i < number; i++) {
                greatest = Math.max(greatest, rows[first + i]);
            }
            return greatest;
        }

        int length(int stroke) {
            int sum = 0;
            for (int i = 1; i < size(stroke); i++) {
                int dx = x(stroke, i) - x(stroke, i - 1);
                int dy = y(stroke, i) - y(stroke, i - 1);
                sum += root(100 * square(dx, dy));
            }
            return sum;
        }

        boolean isOf(int stroke, int color) {
            return color == ANY_COLOR || colorOf(stroke) == color;
        }

        int strokesOf(int color) {
            int sum = 0;
            for (int stroke = 0; stroke < strokes; stroke++) {
                sum += isOf(stroke, color) ? 1 : 0;
            }
            return sum;
        }

        int pointsOf(int color) {
            int sum = 0;
            for (int stroke = 0; stroke < strokes; stroke++) {
                sum += isOf(stroke, color) ? size(stroke) : 0;
            }
            return sum;
        }

        int lengthsOf(int color) {
            int sum = 0;
            for (int stroke = 0; stroke < strokes; stroke++) {
                sum += isOf(stroke, color) ? length(stroke) : 0;
            }
            return sum;
        }
    }

    /**
     * The present state in a ring, with the states before it that can be undone to and those behind
     * it that can be done again. What can be done again was undone, so both are never more than 6
     * together, and a ring of 7 holds all.
     */
    private static final class History {
        private static final int SLOTS = MAX_STATES + 1;

        int past;
        int future;
        private int at;
        private final int[] numbers = new int[SLOTS];
        private final int[] sheets = new int[SLOTS * SHEET];

        /** Takes what an act has made of the present state. */
        void record(Sheet sheet) {
            at = at == SLOTS - 1 ? 0 : at + 1;
            past = Math.min(past + 1, MAX_STATES);
            future = 0;
            numbers[at] = sheet.strokes;
            System.arraycopy(sheet.rows, 0, sheets, at * SHEET, SHEET);
        }

        void stepBack(Sheet sheet) {
            if (past > 0) {
                at = at == 0 ? SLOTS - 1 : at - 1;
                past--;
                future++;
                show(sheet);
            }
        }

        void stepOn(Sheet sheet) {
            if (future > 0) {
                at = at == SLOTS - 1 ? 0 : at + 1;
                past++;
                future--;
                show(sheet);
            }
        }

        private void show(Sheet sheet) {
            sheet.strokes = numbers[at];
            System.arraycopy(sheets, at * SHEET, sheet.rows, 0, SHEET);
        }
    }

    /** The grouping of strokes to lines by their heights. */
    private static final class Lines {
        int number;
        final int[] lineOf = new int[MAX_STROKES];
        final int[] tops = new int[MAX_STROKES];
        final int[] bottoms = new int[MAX_STROKES];
        final int[] sizes = new int[MAX_STROKES];
        // The bands in the order in which the lines were begun, and the lines' numbers then.
        private final int[] begunTops = new int[MAX_STROKES];
        private final int[] begunBottoms = new int[MAX_STROKES];
        private final int[] ranks = new int[MAX_STROKES];

        void group(Sheet sheet) {
            number = 0;
            for (int stroke = 0; stroke < sheet.strokes; stroke++) {
                int top = sheet.top(stroke);
                int bottom = sheet.bottom(stroke);
                int line = bestFor(top, bottom);
                if (line == NONE) {
                    line = number;
                    number++;
                    begunTops[line] = top;
                    begunBottoms[line] = bottom;
                } else {
                    begunTops[line] = Math.min(top, begunTops[line]);
                    begunBottoms[line] = Math.max(bottom, begunBottoms[line]);
                }
                lineOf[stroke] = line;
            }
            rank(sheet.strokes);
        }

        private int bestFor(int top, int bottom) {
            int best = NONE;
            int most = 0;
            for (int line = 0; line < number; line++) {
                int lineTop = begunTops[line];
                int lineBottom = begunBottoms[line];
                int shared = Math.min(bottom, lineBottom) - Math.max(top, lineTop) + 1;
                int lesser = Math.min(bottom - top + 1, lineBottom - lineTop + 1);
                // Starting from 0, a share must be at least 1 to be taken.
                if (shared > most && 2 * shared >= lesser) {
                    best = line;
                    most = shared;
                }
            }
            return best;
        }

        /** Numbers the lines by their bands: a line's number is how many stand before it. */
        private void rank(int strokes) {
            for (int line = 0; line < number; line++) {
                int before = 0;
                for (int other = 0; other < number; other++) {
                    before += isBefore(other, line) ? 1 : 0;
                }
                ranks[line] = before;
                tops[before] = begunTops[line];
                bottoms[before] = begunBottoms[line];
                sizes[before] = 0;
            }
            for (int stroke = 0; stroke < strokes; stroke++) {
                int line = ranks[lineOf[stroke]];
                lineOf[stroke] = line;
                sizes[line]++;
            }
        }

        private boolean isBefore(int line, int other) {
            if (begunTops[line] != begunTops[other]) {
                return begunTops[line] < begunTops[other];
            }
            if (begunBottoms[line] != begunBottoms[other]) {
                return begunBottoms[line] < begunBottoms[other];
            }
            return line < other;
        }
    }

    /** The reading order of the strokes, and their grouping to words by gaps. */
    private static final class Words {
        int number;
        final int[] order = new int[MAX_STROKES];
        final int[] placeOf = new int[MAX_STROKES];
        final int[] wordOf = new int[MAX_STROKES];
        // By words.
        final int[] lines = new int[MAX_STROKES];
        final int[] sizes = new int[MAX_STROKES];
        final int[] lefts = new int[MAX_STROKES];
        final int[] rights = new int[MAX_STROKES];
        final int[] firsts = new int[MAX_STROKES];
        // By lines.
        final int[] wordsIn = new int[MAX_STROKES];
        final int[] firstIn = new int[MAX_STROKES];
        private final int[] strokeLefts = new int[MAX_STROKES];

        void group(Sheet sheet, Lines by, int gap) {
            setOrder(sheet, by);
            number = 0;
            int lineBefore = NONE;
            for (int place = 0; place < sheet.strokes; place++) {
                int stroke = order[place];
                int line = by.lineOf[stroke];
                int right = sheet.right(stroke);
                if (line != lineBefore) {
                    wordsIn[line] = 0;
                    firstIn[line] = number;
                }
                if (line != lineBefore || strokeLefts[stroke] > rights[number - 1] + gap) {
                    lines[number] = line;
                    sizes[number] = 0;
                    lefts[number] = strokeLefts[stroke];
                    rights[number] = right;
                    firsts[number] = place;
                    wordsIn[line]++;
                    number++;
                }
                int word = number - 1;
                wordOf[stroke] = word;
                sizes[word]++;
                rights[word] = Math.max(right, rights[word]);
                lineBefore = line;
            }
        }

        /** A stroke's place is how many strokes stand before it. */
        private void setOrder(Sheet sheet, Lines by) {
            for (int stroke = 0; stroke < sheet.strokes; stroke++) {
                strokeLefts[stroke] = sheet.left(stroke);
            }
            for (int stroke = 0; stroke < sheet.strokes; stroke++) {
                int before = 0;
                for (int other = 0; other < sheet.strokes; other++) {
                    before += isBefore(other, stroke, by) ? 1 : 0;
                }
                placeOf[stroke] = before;
                order[before] = stroke;
            }
        }

        private boolean isBefore(int stroke, int other, Lines by) {
            if (by.lineOf[stroke] != by.lineOf[other]) {
                return by.lineOf[stroke] < by.lineOf[other];
            }
            if (strokeLefts[stroke] != strokeLefts[other]) {
                return strokeLefts[stroke] < strokeLefts[other];
            }
            return stroke < other;
        }
    }

    /**
     * The counting of cells with ink. A table with more slots than there can be points stands for
     * the more than ten thousand cells, so that a pad stays small.
     */
    private static final class Tally {
        private static final int SLOTS = 512;

        int cells;
        int most;
        private final int[] keys = new int[SLOTS];
        private final int[] points = new int[SLOTS];

        /** Counts the points of the strokes of a color, or of all of them. */
        void take(Sheet sheet, int color) {
            cells = 0;
            most = 0;
            for (int slot = 0; slot < SLOTS; slot++) {
                points[slot] = 0;
            }
            for (int stroke = 0; stroke < sheet.strokes; stroke++) {
                if (sheet.isOf(stroke, color)) {
                    for (int i = 0; i < sheet.size(stroke); i++) {
                        add(cellOf(sheet.x(stroke, i), sheet.y(stroke, i)));
                    }
                }
            }
        }

        private void add(int key) {
            for (int tried = 0; tried < SLOTS; tried++) {
                int slot = (key + tried) & (SLOTS - 1);
                if (points[slot] == 0) {
                    keys[slot] = key;
                    cells++;
                }
                if (keys[slot] == key) {
                    points[slot]++;
                    most = Math.max(most, points[slot]);
                    return;
                }
            }
        }
    }
}
