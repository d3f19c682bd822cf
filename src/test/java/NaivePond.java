import java.util.ArrayDeque;
import java.util.ArrayList;
import java.util.HashMap;
import java.util.HashSet;
import java.util.LinkedHashSet;
import java.util.List;
import java.util.Map;
import java.util.NoSuchElementException;
import java.util.Set;
import java.util.TreeMap;
import java.util.TreeSet;

/** The document told a second time, slowly, with sets, maps and texts: what BeaverPond answers is held against it. */
final class NaivePond {
    /** How often a proof ended at one of the limits, so that the test can see that it met them. */
    final Map<String, Integer> met = new TreeMap<>();
    private final List<Beast> beasts = new ArrayList<>();
    private String typed = "";
    private Walk last;
    private Deque pile;

    private static final class Deque extends ArrayDeque<Beast> {
        private static final long serialVersionUID = 1L;
        int steps;
    }

    private static final class Beast {
        final int states;
        final int signs;
        final Map<String, int[]> moves = new HashMap<>();
        char known = '?';
        List<Integer> certificate = List.of();

        Beast(int states, int signs) {
            this.states = states;
            this.signs = signs;
        }

        int[] moveAt(int state, int sign) {
            return moves.get(state + "," + sign);
        }

        Beast with(int state, int sign, int... move) {
            Beast copy = new Beast(states, signs);
            copy.moves.putAll(moves);
            copy.moves.put(state + "," + sign, move);
            return copy;
        }

        void forget() {
            known = '?';
            certificate = List.of();
        }

        String text() {
            StringBuilder text = new StringBuilder();
            for (int state = 0; state < states; state++) {
                text.append(state == 0 ? "" : "_");
                for (int sign = 0; sign < signs; sign++) {
                    int[] move = moveAt(state, sign);
                    text.append(move == null ? "---" : "" + move[0] + (move[1] > 0 ? "R" : "L") + "HABCD".charAt(move[2] + 1));
                }
            }
            return text.toString();
        }
    }

    private static final class Walk {
        final Beast beast;
        final TreeMap<Integer, Integer> tape = new TreeMap<>();
        final List<TreeMap<Integer, Integer>> tapes = new ArrayList<>();
        final List<Integer> places = new ArrayList<>();
        final List<Integer> states = new ArrayList<>();
        int state;
        int place;
        int steps;
        char end;

        Walk(Beast told, int bound, boolean keepTapes) {
            beast = new Beast(told.states, told.signs);
            beast.moves.putAll(told.moves);
            keep(keepTapes);
            while (true) {
                int[] move = beast.moveAt(state, at(place));
                if (move == null) {
                    end = 'k';
                    return;
                }
                if (steps == bound) {
                    end = 'g';
                    return;
                }
                tape.remove(place);
                if (move[0] != 0) {
                    tape.put(place, move[0]);
                }
                place += move[1];
                steps++;
                if (move[2] < 0) {
                    end = 's';
                    places.add(place);
                    return;
                }
                state = move[2];
                keep(keepTapes);
            }
        }

        private void keep(boolean keepTapes) {
            places.add(place);
            states.add(state);
            if (keepTapes) {
                tapes.add(new TreeMap<>(tape));
            }
        }

        int at(int where) {
            return tape.getOrDefault(where, 0);
        }
    }

    private Beast beast(int number) {
        if (number < 0 || number >= beasts.size()) {
            throw new IndexOutOfBoundsException();
        }
        return beasts.get(number);
    }

    private static void need(boolean allowed) {
        if (!allowed) {
            throw new IllegalArgumentException();
        }
    }

    private void needRoom() {
        if (beasts.size() == 200) {
            throw new IllegalStateException();
        }
    }

    private Walk lastWalk() {
        if (last == null) {
            throw new NoSuchElementException();
        }
        return last;
    }

    private int put(Beast beast) {
        beasts.add(beast);
        return beasts.size() - 1;
    }

    private void meet(String limit) {
        met.merge(limit, 1, Integer::sum);
    }

    int machine(int states, int signs) {
        need(1 <= states && states <= 4 && 2 <= signs && signs <= 3);
        needRoom();
        return put(new Beast(states, signs));
    }

    boolean move(int machine, int state, int sign, int write, boolean toRight, int next) {
        Beast beast = beast(machine);
        need(0 <= state && state < beast.states && 0 <= sign && sign < beast.signs);
        need(0 <= write && write < beast.signs && -1 <= next && next < beast.states);
        beast.forget();
        return beast.moves.put(state + "," + sign, new int[] {write, toRight ? 1 : -1, next}) != null;
    }

    boolean unset(int machine, int state, int sign) {
        Beast beast = beast(machine);
        need(0 <= state && state < beast.states && 0 <= sign && sign < beast.signs);
        beast.forget();
        return beast.moves.remove(state + "," + sign) != null;
    }

    int type(char letter) {
        need("012LRABCDH-_".indexOf(letter) >= 0);
        if (typed.length() == 60) {
            throw new IllegalStateException();
        }
        typed += letter;
        return typed.length();
    }

    int wipe() {
        int count = typed.length();
        typed = "";
        return count;
    }

    int read() {
        String[] parts = typed.split("_", -1);
        int signs = parts[0].length() == 6 ? 2 : 3;
        need(parts.length <= 4);
        Beast told = new Beast(parts.length, signs);
        String states = "ABCD".substring(0, parts.length);
        String move = "[" + "012".substring(0, signs) + "][LR][" + states + "H]|---";
        for (int state = 0; state < parts.length; state++) {
            need(parts[state].matches("(" + move + "){" + signs + "}"));
            for (int sign = 0; sign < signs; sign++) {
                String letters = parts[state].substring(3 * sign, 3 * sign + 3);
                if (!letters.equals("---")) {
                    int next = "ABCD".indexOf(letters.charAt(2));
                    int side = letters.charAt(1) == 'R' ? 1 : -1;
                    told.moves.put(state + "," + sign, new int[] {letters.charAt(0) - '0', side, next});
                }
            }
        }
        needRoom();
        typed = "";
        return put(told);
    }

    char code(int machine, int index) {
        String text = beast(machine).text();
        if (index < 0 || index >= text.length()) {
            throw new IndexOutOfBoundsException();
        }
        return text.charAt(index);
    }

    boolean areAlike(int machine, int other) {
        Beast one = beast(machine);
        Beast two = beast(other);
        if (one.states != two.states || one.signs != two.signs) {
            return false;
        }
        List<List<Integer>> names = new ArrayList<>();
        orders(new ArrayList<>(List.of(0)), one.states, names);
        for (List<Integer> name : names) {
            for (int side = -1; side <= 1; side += 2) {
                Beast renamed = new Beast(one.states, one.signs);
                for (int state = 0; state < one.states; state++) {
                    for (int sign = 0; sign < one.signs; sign++) {
                        int[] move = one.moveAt(state, sign);
                        if (move != null) {
                            int next = move[2] < 0 ? -1 : name.get(move[2]);
                            renamed.moves.put(name.get(state) + "," + sign, new int[] {move[0], move[1] * side, next});
                        }
                    }
                }
                if (renamed.text().equals(two.text())) {
                    return true;
                }
            }
        }
        return false;
    }

    private static void orders(List<Integer> begun, int size, List<List<Integer>> all) {
        if (begun.size() == size) {
            all.add(begun);
        }
        for (int each = 1; each < size; each++) {
            if (!begun.contains(each)) {
                List<Integer> longer = new ArrayList<>(begun);
                longer.add(each);
                orders(longer, size, all);
            }
        }
    }

    int run(int machine, int steps) {
        Beast beast = beast(machine);
        need(0 <= steps && steps <= 2000);
        last = new Walk(beast, steps, false);
        if (last.end == 's') {
            beast.known = 's';
            beast.certificate = List.of(last.steps);
        }
        return last.steps;
    }

    char outcome() {
        return lastWalk().end;
    }

    int marks() {
        return lastWalk().tape.size();
    }

    int space() {
        return new TreeSet<>(lastWalk().places).size();
    }

    int rows() {
        if (lastWalk().tape.isEmpty()) {
            return 0;
        }
        StringBuilder signs = new StringBuilder();
        for (int where = last.tape.firstKey(); where <= last.tape.lastKey(); where++) {
            signs.append(last.at(where));
        }
        return signs.toString().replaceAll("(.)\\1*", "x").length();
    }

    int sign(int place) {
        return lastWalk().at(place);
    }

    int head() {
        return lastWalk().place;
    }

    boolean prove(int machine, char way, int bound) {
        Beast beast = beast(machine);
        need(bound >= 1);
        need((way == 'c' || way == 't') && bound <= 300 || way == 'b' && bound <= 30 || way == 'n' && bound <= 4);
        if (beast.known == '?') {
            List<Integer> found = way == 'c' ? circle(beast, bound) : way == 't' ? travel(beast, bound)
                : way == 'b' ? backward(beast, bound) : near(beast, bound);
            meet(way + (found == null ? " fails" : " proves"));
            if (found != null) {
                beast.known = way;
                beast.certificate = found;
            }
        }
        return beast.known != '?' && beast.known != 's';
    }

    private static List<Integer> circle(Beast beast, int bound) {
        Walk walk = new Walk(beast, bound, true);
        Map<String, Integer> seen = new HashMap<>();
        for (int step = 0; step < walk.states.size(); step++) {
            String stand = walk.states.get(step) + " " + walk.places.get(step) + " " + walk.tapes.get(step);
            if (seen.containsKey(stand)) {
                return List.of(seen.get(stand), step);
            }
            seen.put(stand, step);
        }
        return null;
    }

    private static List<Integer> travel(Beast beast, int bound) {
        Walk walk = new Walk(beast, bound, true);
        List<Integer> right = travelTo(walk, 1);
        List<Integer> left = travelTo(walk, -1);
        if (right == null || left == null) {
            return right == null ? left : right;
        }
        return right.get(1) <= left.get(1) ? right : left;
    }

    private static List<Integer> travelTo(Walk walk, int side) {
        List<Integer> news = new ArrayList<>();
        int farthest = 0;
        for (int step = 0; step < walk.states.size(); step++) {
            int place = side * walk.places.get(step);
            if (step > 0 && place <= farthest) {
                continue;
            }
            farthest = place;
            for (int index = news.size() - 1; index >= 0; index--) {
                int earlier = news.get(index);
                int lowest = place;
                for (int between = earlier; between <= step; between++) {
                    lowest = Math.min(lowest, side * walk.places.get(between));
                }
                int back = side * walk.places.get(earlier) - lowest;
                boolean alike = walk.states.get(earlier).equals(walk.states.get(step));
                for (int away = 0; away <= back; away++) {
                    int sign = walk.tapes.get(earlier).getOrDefault(walk.places.get(earlier) - side * away, 0);
                    alike &= sign == walk.tapes.get(step).getOrDefault(walk.places.get(step) - side * away, 0);
                }
                if (alike) {
                    return List.of(earlier, step, back);
                }
            }
            news.add(step);
        }
        return null;
    }

    private List<Integer> backward(Beast beast, int bound) {
        Set<Map.Entry<Integer, Map<Integer, Integer>>> row = new HashSet<>();
        for (int state = 0; state < beast.states; state++) {
            for (int sign = 0; sign < beast.signs; sign++) {
                int[] move = beast.moveAt(state, sign);
                if (move == null || move[2] < 0) {
                    row.add(Map.entry(state, Map.of(0, sign)));
                }
            }
        }
        for (int number = 0; number <= bound; number++) {
            if (row.isEmpty()) {
                return List.of(number);
            }
            if (row.size() > 100) {
                meet("a row has more than 100");
                return null;
            }
            for (Map.Entry<Integer, Map<Integer, Integer>> each : row) {
                if (each.getKey() == 0 && each.getValue().values().stream().allMatch(sign -> sign == 0)) {
                    meet("a row has the beginning");
                    return null;
                }
            }
            if (row.size() == 100) {
                meet("a row has just 100");
            }
            row = rowBehind(beast, row);
        }
        meet("the last row is not empty");
        return null;
    }

    private static Set<Map.Entry<Integer, Map<Integer, Integer>>> rowBehind(
            Beast beast, Set<Map.Entry<Integer, Map<Integer, Integer>>> row) {
        Set<Map.Entry<Integer, Map<Integer, Integer>>> behind = new HashSet<>();
        for (Map.Entry<Integer, Map<Integer, Integer>> each : row) {
            for (int state = 0; state < beast.states; state++) {
                for (int sign = 0; sign < beast.signs; sign++) {
                    int[] move = beast.moveAt(state, sign);
                    if (move == null || move[2] != each.getKey()) {
                        continue;
                    }
                    int origin = -move[1];
                    Integer there = each.getValue().get(origin);
                    if (there != null && there != move[0]) {
                        continue;
                    }
                    Map<Integer, Integer> signs = new TreeMap<>();
                    each.getValue().forEach((place, known) -> signs.put(place - origin, known));
                    signs.put(0, sign);
                    behind.add(Map.entry(state, signs));
                }
            }
        }
        return behind;
    }

    private List<Integer> near(Beast beast, int length) {
        Set<String> lefts = new HashSet<>();
        Set<String> rights = new HashSet<>();
        Set<String> pictures = new LinkedHashSet<>();
        String blanks = "0000".substring(0, length);
        lefts.add(blanks);
        rights.add(blanks);
        pictures.add("00" + blanks + blanks);
        int size = 0;
        while (size != lefts.size() + rights.size() + pictures.size()) {
            size = lefts.size() + rights.size() + pictures.size();
            for (String picture : new ArrayList<>(pictures)) {
                int[] move = beast.moveAt(picture.charAt(0) - '0', picture.charAt(1) - '0');
                if (move == null || move[2] < 0) {
                    return null;
                }
                String left = picture.substring(2, 2 + length);
                String right = picture.substring(2 + length);
                (move[1] > 0 ? lefts : rights).add(move[1] > 0 ? left : right);
                for (int sign = 0; sign < beast.signs; sign++) {
                    if (move[1] > 0) {
                        String ahead = right.substring(1) + sign;
                        if (rights.contains(ahead)) {
                            String behind = (move[0] + left).substring(0, length);
                            pictures.add("" + move[2] + right.charAt(0) + behind + ahead);
                        }
                    } else {
                        String ahead = left.substring(1) + sign;
                        if (lefts.contains(ahead)) {
                            String behind = (move[0] + right).substring(0, length);
                            pictures.add("" + move[2] + left.charAt(0) + ahead + behind);
                        }
                    }
                }
            }
            if (pictures.size() > 300) {
                meet("more than 300 pictures");
                return null;
            }
        }
        if (pictures.size() > 200) {
            meet("200 to 300 pictures");
        }
        return List.of(pictures.size(), length);
    }

    char known(int machine) {
        return beast(machine).known;
    }

    int certificate(int machine, int index) {
        List<Integer> numbers = beast(machine).certificate;
        if (index < 0 || index >= numbers.size()) {
            throw new NoSuchElementException();
        }
        return numbers.get(index);
    }

    boolean check(int machine) {
        if (beast(machine).known == '?') {
            throw new NoSuchElementException();
        }
        return true;
    }

    int list(int states, int signs, int steps) {
        need(1 <= states && states <= 4 && 2 <= signs && signs <= 3 && 1 <= steps && steps <= 200);
        pile = new Deque();
        pile.steps = steps;
        pile.push(new Beast(states, signs));
        return 1;
    }

    int next() {
        if (pile == null) {
            throw new NoSuchElementException();
        }
        needRoom();
        if (pile.isEmpty()) {
            return -1;
        }
        Beast top = pile.pop();
        Walk walk = new Walk(top, pile.steps, false);
        if (walk.end != 'k') {
            return put(top);
        }
        Set<Integer> signs = new TreeSet<>(Set.of(0));
        Set<Integer> states = new TreeSet<>(Set.of(0));
        for (int[] move : top.moves.values()) {
            signs.add(move[0]);
            states.add(move[2]);
        }
        addLowestMissing(signs, top.signs);
        addLowestMissing(states, top.states);
        int sign = walk.at(walk.place);
        List<Beast> others = new ArrayList<>();
        for (int write : signs) {
            for (int side = top.moves.isEmpty() ? 1 : -1; side <= 1; side += 2) {
                for (int next : states) {
                    others.add(top.with(walk.state, sign, write, side, next));
                }
            }
        }
        for (int index = others.size() - 1; index >= 0; index--) {
            pile.push(others.get(index));
        }
        Beast stopping = top.with(walk.state, sign, 1, 1, -1);
        stopping.known = 's';
        stopping.certificate = List.of(walk.steps + 1);
        return put(stopping);
    }

    private static void addLowestMissing(Set<Integer> used, int size) {
        for (int each = 0; each < size; each++) {
            if (used.add(each)) {
                return;
            }
        }
    }

    int record(int states, int signs) {
        int best = -1;
        for (int number = 0; number < beasts.size(); number++) {
            Beast beast = beasts.get(number);
            if (beast.known == 's' && beast.states == states && beast.signs == signs
                    && (best < 0 || beast.certificate.get(0) > beasts.get(best).certificate.get(0))) {
                best = number;
            }
        }
        if (best < 0) {
            throw new NoSuchElementException();
        }
        return best;
    }

    int undecided(int states, int signs) {
        return (int) beasts.stream().filter(b -> b.known == '?' && b.states == states && b.signs == signs).count();
    }

    float knownShare() {
        if (beasts.isEmpty()) {
            throw new ArithmeticException();
        }
        return (float) beasts.stream().filter(b -> b.known != '?').count() / beasts.size();
    }

    double meanSteps() {
        long count = beasts.stream().filter(b -> b.known == 's').count();
        if (count == 0) {
            throw new ArithmeticException();
        }
        return (double) beasts.stream().filter(b -> b.known == 's').mapToLong(b -> b.certificate.get(0)).sum() / count;
    }

    boolean isSound() {
        for (Beast beast : beasts) {
            if (beast.known != '?' && beast.known != 's' && new Walk(beast, 500, false).end != 'g') {
                return false;
            }
        }
        return true;
    }
}
