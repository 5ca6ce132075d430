import java.util.ArrayDeque;
import java.util.ArrayList;
import java.util.Comparator;
import java.util.Deque;
import java.util.HashMap;
import java.util.HashSet;
import java.util.List;
import java.util.Map;
import java.util.Set;
import java.util.stream.IntStream;

/**
 * The document once more, written apart from the class in the plainest way the Java library allows:
 * states are lists that never change, so a history is a pile of them.
 */
final class Model {
    record Point(int x, int y) {
        int squareTo(Point other) {
            return (x - other.x) * (x - other.x) + (y - other.y) * (y - other.y);
        }
    }

    record Stroke(int color, List<Point> points) {
        int left() {
            return points.stream().mapToInt(Point::x).min().orElseThrow();
        }

        int right() {
            return points.stream().mapToInt(Point::x).max().orElseThrow();
        }

        int top() {
            return points.stream().mapToInt(Point::y).min().orElseThrow();
        }

        int bottom() {
            return points.stream().mapToInt(Point::y).max().orElseThrow();
        }

        int length() {
            int sum = 0;
            for (int i = 1; i < points.size(); i++) {
                sum += (int) Math.floor(Math.sqrt(100.0 * points.get(i).squareTo(points.get(i - 1))));
            }
            return sum;
        }
    }

    private List<Stroke> strokes = List.of();
    private final Deque<List<Stroke>> past = new ArrayDeque<>();
    private final Deque<List<Stroke>> future = new ArrayDeque<>();
    private List<Point> buffer = new ArrayList<>();
    private String text = "";
    private int gap = 20;

    private static boolean in(int value, int least, int greatest) {
        return least <= value && value <= greatest;
    }

    private boolean known(int stroke) {
        return in(stroke, 0, strokes.size() - 1);
    }

    private static List<Point> withoutRepeats(List<Point> points) {
        List<Point> kept = new ArrayList<>();
        for (Point point : points) {
            if (kept.isEmpty() || !kept.get(kept.size() - 1).equals(point)) {
                kept.add(point);
            }
        }
        return kept;
    }

    private void act(List<Stroke> then) {
        past.push(strokes);
        if (past.size() > 6) {
            past.removeLast();
        }
        future.clear();
        strokes = List.copyOf(then);
    }

    private int actOn(int stroke, List<Point> points) {
        if (points.equals(strokes.get(stroke).points())) {
            return -5;
        }
        List<Stroke> then = new ArrayList<>(strokes);
        then.set(stroke, new Stroke(strokes.get(stroke).color(), List.copyOf(points)));
        act(then);
        return points.size();
    }

    int put(int x, int y) {
        if (!in(x, 0, 1000) || !in(y, 0, 1000)) {
            return -2;
        }
        if (buffer.size() == 24) {
            return -3;
        }
        buffer.add(new Point(x, y));
        buffer = withoutRepeats(buffer);
        return buffer.size();
    }

    int clearPoints() {
        int before = buffer.size();
        buffer = new ArrayList<>();
        return before;
    }

    int type(char character) {
        if (text.length() == 100) {
            return -3;
        }
        text += character;
        return text.length();
    }

    int clearText() {
        int before = text.length();
        text = "";
        return before;
    }

    /** The text is cut at the signs that may stand between numbers, then looked at piece by piece. */
    int readPoints() {
        List<Point> points = new ArrayList<>();
        int at = 0;
        while (true) {
            int[] pair = new int[2];
            for (int half = 0; half < 2; half++) {
                int end = at;
                while (end < text.length() && "0123456789".indexOf(text.charAt(end)) >= 0) {
                    end++;
                }
                if (end - at > 4) {
                    return -100 - (at + 4);
                }
                if (end == at) {
                    return -100 - at;
                }
                pair[half] = Integer.parseInt(text.substring(at, end));
                if (pair[half] > 1000) {
                    return -100 - at;
                }
                at = end;
                if (half == 0) {
                    if (at == text.length() || text.charAt(at) != ',') {
                        return -100 - at;
                    }
                    at++;
                }
            }
            points.add(new Point(pair[0], pair[1]));
            if (at == text.length()) {
                break;
            }
            if (text.charAt(at) != ' ' || points.size() == 24) {
                return -100 - at;
            }
            at++;
        }
        buffer = withoutRepeats(points);
        return buffer.size();
    }

    int draw(int color) {
        if (!in(color, 0, 3)) {
            return -2;
        }
        if (buffer.isEmpty()) {
            return -4;
        }
        if (strokes.size() == 16) {
            return -3;
        }
        List<Stroke> then = new ArrayList<>(strokes);
        then.add(new Stroke(color, List.copyOf(buffer)));
        buffer = new ArrayList<>();
        act(then);
        return then.size() - 1;
    }

    int rub(int x, int y, int radius) {
        if (!in(x, 0, 1000) || !in(y, 0, 1000) || !in(radius, 0, 500)) {
            return -2;
        }
        Point middle = new Point(x, y);
        List<Stroke> then = new ArrayList<>();
        int rubbed = 0;
        for (Stroke stroke : strokes) {
            List<List<Point>> parts = new ArrayList<>();
            parts.add(new ArrayList<>());
            for (Point point : stroke.points()) {
                if (Math.sqrt(point.squareTo(middle)) <= radius) {
                    rubbed++;
                    parts.add(new ArrayList<>());
                } else {
                    parts.get(parts.size() - 1).add(point);
                }
            }
            parts.removeIf(List::isEmpty);
            for (List<Point> part : parts) {
                then.add(new Stroke(stroke.color(), part));
            }
        }
        if (then.size() > 16) {
            return -3;
        }
        if (rubbed == 0) {
            return -5;
        }
        act(then);
        return rubbed;
    }

    int smooth(int stroke, int rounds) {
        if (!known(stroke)) {
            return -1;
        }
        if (!in(rounds, 1, 8)) {
            return -2;
        }
        List<Point> points = strokes.get(stroke).points();
        for (int round = 0; round < rounds; round++) {
            List<Point> then = new ArrayList<>(points);
            for (int i = 1; i + 1 < points.size(); i++) {
                Point a = points.get(i - 1);
                Point b = points.get(i);
                Point c = points.get(i + 1);
                then.set(i, new Point((a.x() + 2 * b.x() + c.x()) / 4, (a.y() + 2 * b.y() + c.y()) / 4));
            }
            points = then;
        }
        return actOn(stroke, withoutRepeats(points));
    }

    int thin(int stroke, int distance) {
        if (!known(stroke)) {
            return -1;
        }
        if (!in(distance, 1, 500)) {
            return -2;
        }
        List<Point> points = strokes.get(stroke).points();
        List<Point> kept = new ArrayList<>();
        for (int i = 0; i < points.size(); i++) {
            boolean inner = i > 0 && i < points.size() - 1;
            if (!inner || points.get(i).squareTo(kept.get(kept.size() - 1)) >= distance * distance) {
                kept.add(points.get(i));
            }
        }
        return actOn(stroke, withoutRepeats(kept));
    }

    int join(int stroke, int other) {
        if (!known(stroke) || !known(other)) {
            return -1;
        }
        if (stroke == other) {
            return -2;
        }
        List<Point> points = new ArrayList<>(strokes.get(stroke).points());
        points.addAll(strokes.get(other).points());
        points = withoutRepeats(points);
        if (points.size() > 24) {
            return -3;
        }
        Stroke joined = new Stroke(strokes.get(stroke).color(), List.copyOf(points));
        List<Stroke> then = new ArrayList<>(strokes);
        then.set(stroke, joined);
        then.remove(other);
        act(then);
        return stroke - (other < stroke ? 1 : 0);
    }

    int shift(int stroke, int dx, int dy) {
        if (!known(stroke)) {
            return -1;
        }
        if (!in(dx, -1000, 1000) || !in(dy, -1000, 1000)) {
            return -2;
        }
        List<Point> points = new ArrayList<>();
        for (Point point : strokes.get(stroke).points()) {
            points.add(new Point(point.x() + dx, point.y() + dy));
        }
        if (points.stream().anyMatch(p -> !in(p.x(), 0, 1000) || !in(p.y(), 0, 1000))) {
            return -4;
        }
        return actOn(stroke, points);
    }

    int paint(int stroke, int color) {
        if (!known(stroke)) {
            return -1;
        }
        if (!in(color, 0, 3)) {
            return -2;
        }
        Stroke before = strokes.get(stroke);
        if (before.color() == color) {
            return -5;
        }
        List<Stroke> then = new ArrayList<>(strokes);
        then.set(stroke, new Stroke(color, before.points()));
        act(then);
        return before.color();
    }

    int remove(int stroke) {
        if (!known(stroke)) {
            return -1;
        }
        List<Stroke> then = new ArrayList<>(strokes);
        then.remove(stroke);
        act(then);
        return then.size();
    }

    int undo() {
        if (past.isEmpty()) {
            return -5;
        }
        future.push(strokes);
        strokes = past.pop();
        return past.size();
    }

    int redo() {
        if (future.isEmpty()) {
            return -5;
        }
        past.push(strokes);
        if (past.size() > 6) {
            past.removeLast();
        }
        strokes = future.pop();
        return future.size();
    }

    /** A line with its band and, in reading order, its strokes. */
    private static final class Line {
        int top;
        int bottom;
        final List<Integer> members = new ArrayList<>();

        int shared(Stroke stroke) {
            return Math.min(stroke.bottom(), bottom) - Math.max(stroke.top(), top) + 1;
        }

        boolean takes(Stroke stroke) {
            int lesser = Math.min(stroke.bottom() - stroke.top() + 1, bottom - top + 1);
            return shared(stroke) >= 1 && 2 * shared(stroke) >= lesser;
        }
    }

    private List<Line> lines() {
        List<Line> lines = new ArrayList<>();
        for (int i = 0; i < strokes.size(); i++) {
            Stroke stroke = strokes.get(i);
            Line best = null;
            for (Line line : lines) {
                if (line.takes(stroke) && (best == null || line.shared(stroke) > best.shared(stroke))) {
                    best = line;
                }
            }
            if (best == null) {
                best = new Line();
                best.top = stroke.top();
                best.bottom = stroke.bottom();
                lines.add(best);
            }
            best.top = Math.min(best.top, stroke.top());
            best.bottom = Math.max(best.bottom, stroke.bottom());
            best.members.add(i);
        }
        lines.sort(Comparator.<Line>comparingInt(l -> l.top).thenComparingInt(l -> l.bottom));
        for (Line line : lines) {
            line.members.sort(Comparator.comparingInt(i -> strokes.get(i).left()));
        }
        return lines;
    }

    /** The words as lists of strokes, each with its line in front. */
    private List<List<Integer>> words() {
        List<List<Integer>> words = new ArrayList<>();
        List<Line> lines = lines();
        for (int l = 0; l < lines.size(); l++) {
            List<Integer> word = null;
            for (int i : lines.get(l).members) {
                if (word == null || strokes.get(i).left() > right(word) + gap) {
                    word = new ArrayList<>(List.of(l));
                    words.add(word);
                }
                word.add(i);
            }
        }
        return words;
    }

    private int right(List<Integer> word) {
        return word.stream().skip(1).mapToInt(i -> strokes.get(i).right()).max().orElseThrow();
    }

    private List<Integer> order() {
        List<Integer> order = new ArrayList<>();
        lines().forEach(line -> order.addAll(line.members));
        return order;
    }

    int stroke(int stroke, int what) {
        if (!known(stroke)) {
            return -1;
        }
        Stroke it = strokes.get(stroke);
        return switch (what) {
            case 0 -> it.color();
            case 1 -> it.points().size();
            case 2 -> it.left();
            case 3 -> it.right();
            case 4 -> it.top();
            case 5 -> it.bottom();
            case 6 -> it.length();
            case 7 -> {
                List<Line> lines = lines();
                yield IntStream.range(0, lines.size())
                        .filter(l -> lines.get(l).members.contains(stroke)).findFirst().orElseThrow();
            }
            case 8 -> {
                List<List<Integer>> words = words();
                yield IntStream.range(0, words.size())
                        .filter(w -> words.get(w).subList(1, words.get(w).size()).contains(stroke))
                        .findFirst().orElseThrow();
            }
            case 9 -> order().indexOf(stroke);
            default -> -2;
        };
    }

    int point(int stroke, int point, int what) {
        if (!known(stroke) || !in(point, 0, strokes.get(stroke).points().size() - 1)) {
            return -1;
        }
        if (!in(what, 0, 1)) {
            return -2;
        }
        Point it = strokes.get(stroke).points().get(point);
        return what == 0 ? it.x() : it.y();
    }

    int read(int place) {
        if (place < 0) {
            return -2;
        }
        return place < strokes.size() ? order().get(place) : -5;
    }

    int line(int line, int what) {
        List<Line> lines = lines();
        if (!in(line, 0, lines.size() - 1)) {
            return -1;
        }
        List<List<Integer>> words = words();
        int[] own = IntStream.range(0, words.size())
                .filter(w -> words.get(w).get(0) == line).toArray();
        return switch (what) {
            case 0 -> lines.get(line).top;
            case 1 -> lines.get(line).bottom;
            case 2 -> lines.get(line).members.size();
            case 3 -> own.length;
            case 4 -> own[0];
            default -> -2;
        };
    }

    int word(int word, int what) {
        List<List<Integer>> words = words();
        if (!in(word, 0, words.size() - 1)) {
            return -1;
        }
        List<Integer> it = words.get(word);
        return switch (what) {
            case 0 -> it.get(0);
            case 1 -> it.size() - 1;
            case 2 -> it.stream().skip(1).mapToInt(i -> strokes.get(i).left()).min().orElseThrow();
            case 3 -> right(it);
            case 4 -> order().indexOf(it.get(1));
            default -> -2;
        };
    }

    int setGap(int gap) {
        if (!in(gap, 0, 500)) {
            return -2;
        }
        int before = this.gap;
        this.gap = gap;
        return before;
    }

    int nearest(int x, int y) {
        if (!in(x, 0, 1000) || !in(y, 0, 1000)) {
            return -2;
        }
        Point place = new Point(x, y);
        return IntStream.range(0, strokes.size()).boxed()
                .min(Comparator.comparingInt((Integer i) -> strokes.get(i).points().stream()
                        .mapToInt(place::squareTo).min().orElseThrow())
                        .thenComparingInt(i -> i))
                .orElse(-5);
    }

    private static Point cellOf(Point point) {
        return new Point(point.x() / 10, point.y() / 10);
    }

    int cell(int x, int y) {
        if (!in(x, 0, 1000) || !in(y, 0, 1000)) {
            return -2;
        }
        Point wanted = cellOf(new Point(x, y));
        return (int) strokes.stream().flatMap(s -> s.points().stream())
                .filter(p -> cellOf(p).equals(wanted)).count();
    }

    int color(int color, int what) {
        if (!in(color, 0, 3)) {
            return -2;
        }
        List<Stroke> own = strokes.stream().filter(s -> s.color() == color).toList();
        Set<Point> cells = new HashSet<>();
        own.forEach(s -> s.points().forEach(p -> cells.add(cellOf(p))));
        return switch (what) {
            case 0 -> own.size();
            case 1 -> own.stream().mapToInt(s -> s.points().size()).sum();
            case 2 -> own.stream().mapToInt(Stroke::length).sum();
            case 3 -> cells.size();
            default -> -2;
        };
    }

    int count(int what) {
        Map<Point, Integer> cells = new HashMap<>();
        strokes.forEach(s -> s.points().forEach(p -> cells.merge(cellOf(p), 1, Integer::sum)));
        return switch (what) {
            case 0 -> strokes.size();
            case 1 -> strokes.stream().mapToInt(s -> s.points().size()).sum();
            case 2 -> strokes.stream().mapToInt(Stroke::length).sum();
            case 3 -> lines().size();
            case 4 -> words().size();
            case 5 -> cells.size();
            case 6 -> cells.values().stream().mapToInt(n -> n).max().orElse(0);
            case 7 -> buffer.size();
            case 8 -> past.size();
            case 9 -> future.size();
            case 10 -> gap;
            default -> -2;
        };
    }
}
