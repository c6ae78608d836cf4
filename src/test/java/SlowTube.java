import java.math.BigInteger;
import java.util.ArrayList;
import java.util.HashMap;
import java.util.HashSet;
import java.util.List;
import java.util.Map;
import java.util.NoSuchElementException;
import java.util.Set;
import java.util.regex.Matcher;
import java.util.regex.Pattern;

/**
 * The document once more, as slowly as its words go: every row of turns is made, every step is gone.
 * The tests compare MirrorTube with it.
 */
final class SlowTube {
    static final int NONE = -1;

    static final class Bit {
        String name;
        String sort;
        String colour;
        int told;
        int want = -2;
        int after = -2;
    }

    static final class Told {
        int rolls;
        List<Bit> bits = new ArrayList<>();
        List<String> names = new ArrayList<>();
        List<Integer> metCells = new ArrayList<>();
        List<String> metColours = new ArrayList<>();
        List<Integer> holidays = new ArrayList<>();
        List<int[]> people = new ArrayList<>();
        boolean tube;
    }

    static final class Now {
        int[] cells;
        int[][] people;
        int day;

        Now copy() {
            Now n = new Now();
            n.cells = cells.clone();
            n.people = new int[people.length][];
            for (int i = 0; i < people.length; i++) {
                n.people[i] = people[i].clone();
            }
            n.day = day;
            return n;
        }
    }

    private final List<Byte> tape = new ArrayList<>();
    private Told told;
    private Now now;
    private List<Now> acts = new ArrayList<>();
    private List<Now> images = new ArrayList<>();
    private int trouble;
    private int fault;
    private int place;

    // ---- the text

    private static final class Fault extends Exception {
        private static final long serialVersionUID = 1L;
        final int number;
        final int place;

        Fault(int number, int place) {
            this.number = number;
            this.place = place;
        }
    }

    private static final Map<String, String[]> LINES = new HashMap<>();

    static {
        LINES.put("tube", new String[] {"=rolls", "0-100"});
        LINES.put("bit", new String[] {"new", "sort", "colour", "=at", "0-11"});
        LINES.put("want", new String[] {"old", "=at", "0-11"});
        LINES.put("after", new String[] {"old", "=at", "0-11"});
        LINES.put("met", new String[] {"0-11", "colour"});
        LINES.put("holiday", new String[] {"0-99"});
        LINES.put("person", new String[] {"new", "=in", "0-5", "=at", "0-11"});
    }

    private static final class Token {
        String text;
        int place;

        boolean word() {
            return text.matches("[a-z]{1,8}");
        }

        boolean whole() {
            return text.matches("[0-9]{1,3}");
        }

        boolean name() {
            return word() && !LINES.containsKey(text);
        }
    }

    private static List<Token> tokens(String text) {
        List<Token> all = new ArrayList<>();
        Matcher m = Pattern.compile("[a-z]+|[0-9]+|[^ ]", Pattern.DOTALL).matcher(text);
        while (m.find()) {
            Token t = new Token();
            t.text = m.group();
            t.place = m.start();
            all.add(t);
        }
        Token end = new Token();
        end.text = "";
        end.place = text.length();
        all.add(end);
        return all;
    }

    private static Told read(String text) throws Fault {
        Told t = new Told();
        List<Token> all = tokens(text);
        int at = 0;
        while (true) {
            Token first = all.get(at);
            at++;
            String[] parts = LINES.get(first.text);
            if (parts == null) {
                throw new Fault(1, first.place);
            }
            if (first.text.equals("tube") && t.tube) {
                throw new Fault(3, first.place);
            }
            if (full(t, first.text)) {
                throw new Fault(5, first.place);
            }
            if (!first.text.equals("tube") && !t.tube) {
                throw new Fault(6, first.place);
            }
            List<String> said = new ArrayList<>();
            for (String part : parts) {
                Token token = all.get(at);
                at++;
                fits(t, first.text, part, token, said.isEmpty());
                said.add(token.text);
            }
            take(t, first.text, said);
            Token last = all.get(at);
            at++;
            if (last.text.isEmpty()) {
                if (t.bits.isEmpty()) {
                    throw new Fault(6, last.place);
                }
                return t;
            }
            if (!last.text.equals(";")) {
                throw new Fault(1, last.place);
            }
        }
    }

    private static boolean full(Told t, String line) {
        switch (line) {
            case "bit":
                return t.bits.size() == 6;
            case "met":
                return t.metCells.size() == 6;
            case "holiday":
                return t.holidays.size() == 8;
            case "person":
                return t.people.size() == 4;
            default:
                return false;
        }
    }

    private static void fits(Told t, String line, String part, Token token, boolean first) throws Fault {
        if (part.startsWith("=")) {
            if (!token.text.equals(part.substring(1))) {
                throw new Fault(1, token.place);
            }
        } else if (part.equals("sort")) {
            if (!token.text.matches("light|plain|heavy|glued")) {
                throw new Fault(1, token.place);
            }
        } else if (part.equals("colour")) {
            if (!token.word()) {
                throw new Fault(1, token.place);
            }
        } else if (part.equals("new") || part.equals("old")) {
            nameFits(t, line, part, token);
        } else {
            if (!token.whole()) {
                throw new Fault(1, token.place);
            }
            int n = Integer.parseInt(token.text);
            if (line.equals("met") && first && t.metCells.contains(n)
                    || line.equals("holiday") && t.holidays.contains(n)) {
                throw new Fault(3, token.place);
            }
            if (n > Integer.parseInt(part.substring(2))) {
                throw new Fault(4, token.place);
            }
        }
    }

    private static void nameFits(Told t, String line, String part, Token token) throws Fault {
        if (!token.name()) {
            throw new Fault(1, token.place);
        }
        if (part.equals("new")) {
            if (t.names.contains(token.text)) {
                throw new Fault(3, token.place);
            }
            return;
        }
        Bit b = named(t, token.text);
        if (b == null) {
            throw new Fault(2, token.place);
        }
        if ((line.equals("want") ? b.want : b.after) != -2) {
            throw new Fault(3, token.place);
        }
    }

    private static Bit named(Told t, String name) {
        for (Bit b : t.bits) {
            if (b.name.equals(name)) {
                return b;
            }
        }
        return null;
    }

    private static void take(Told t, String line, List<String> said) {
        switch (line) {
            case "tube":
                t.tube = true;
                t.rolls = Integer.parseInt(said.get(1));
                break;
            case "bit":
                Bit b = new Bit();
                b.name = said.get(0);
                b.sort = said.get(1);
                b.colour = said.get(2);
                b.told = Integer.parseInt(said.get(4));
                t.bits.add(b);
                t.names.add(b.name);
                break;
            case "want":
                named(t, said.get(0)).want = Integer.parseInt(said.get(2));
                break;
            case "after":
                named(t, said.get(0)).after = Integer.parseInt(said.get(2));
                break;
            case "met":
                t.metCells.add(Integer.parseInt(said.get(0)));
                t.metColours.add(said.get(1));
                break;
            case "holiday":
                t.holidays.add(Integer.parseInt(said.get(0)));
                break;
            default:
                t.names.add(said.get(0));
                t.people.add(new int[] {Integer.parseInt(said.get(2)), Integer.parseInt(said.get(4)), 0});
                break;
        }
    }

    // ---- small things

    private int no(int number) {
        trouble = number;
        return NONE;
    }

    private int yes(int value) {
        trouble = 0;
        return value;
    }

    private boolean hasBit(int b) {
        return told != null && b >= 0 && b < told.bits.size();
    }

    private boolean hasPerson(int p) {
        return told != null && p >= 0 && p < told.people.size();
    }

    private static boolean in(int n, int from, int to) {
        return n >= from && n <= to;
    }

    private static int ring(int n) {
        return ((n % 12) + 120) % 12;
    }

    private int weight(int b) {
        switch (told.bits.get(b).sort) {
            case "light":
                return 1;
            case "plain":
                return 2;
            case "heavy":
                return 3;
            default:
                return 4;
        }
    }

    private int[] turned(int[] cells, int clicks) {
        int[] then = new int[cells.length];
        for (int b = 0; b < cells.length; b++) {
            int by;
            switch (told.bits.get(b).sort) {
                case "light":
                    by = 2 * clicks;
                    break;
                case "plain":
                    by = clicks;
                    break;
                case "heavy":
                    by = clicks < 0 ? -(-clicks / 2) : clicks / 2;
                    break;
                default:
                    by = 0;
                    break;
            }
            then[b] = ring(cells[b] + by);
        }
        return then;
    }

    private int topOf(int[] cells, int cell) {
        for (int w = 4; w >= 1; w--) {
            for (int b = 0; b < cells.length; b++) {
                if (cells[b] == cell && weight(b) == w) {
                    return b;
                }
            }
        }
        return -2;
    }

    private List<Integer> tops(int[] cells) {
        List<Integer> all = new ArrayList<>();
        for (int b = 0; b < cells.length; b++) {
            if (topOf(cells, cells[b]) == b) {
                all.add(b);
            }
        }
        return all;
    }

    private int shown(int country, int cell) {
        if (country == 0 || country == 2 || country == 4) {
            return topOf(now.cells, ring(cell - 2 * country));
        }
        return topOf(now.cells, ring(11 - cell + 2 * country));
    }

    private String colourShown(int country, int cell) {
        int b = shown(country, cell);
        return b < 0 ? "" : told.bits.get(b).colour;
    }

    private boolean allRight(int[] cells) {
        for (int b = 0; b < cells.length; b++) {
            int want = told.bits.get(b).want;
            if (want != -2 && want != cells[b]) {
                return false;
            }
        }
        return true;
    }

    /** All rows of n turns by -3 to 3, not 0, in their order. */
    private static List<int[]> rows(int n) {
        List<int[]> all = new ArrayList<>();
        all.add(new int[0]);
        for (int i = 0; i < n; i++) {
            List<int[]> longer = new ArrayList<>();
            for (int[] row : all) {
                for (int c = -3; c <= 3; c++) {
                    if (c != 0) {
                        int[] more = java.util.Arrays.copyOf(row, i + 1);
                        more[i] = c;
                        longer.add(more);
                    }
                }
            }
            all = longer;
        }
        return all;
    }

    private int[] made(int[] cells, int[] row) {
        int[] then = cells;
        for (int c : row) {
            then = turned(then, c);
        }
        return then;
    }

    private int[] rowToWant() {
        for (int n = 0; n <= 5; n++) {
            for (int[] row : rows(n)) {
                if (allRight(made(now.cells, row))) {
                    return row;
                }
            }
        }
        return null;
    }

    private List<Integer> madeRows(int n) {
        int[] from = new int[told.bits.size()];
        for (int b = 0; b < from.length; b++) {
            from[b] = told.bits.get(b).told;
        }
        List<Integer> found = new ArrayList<>();
        for (int[] row : rows(n)) {
            int[] then = made(from, row);
            boolean good = true;
            for (int b = 0; b < from.length; b++) {
                int after = told.bits.get(b).after;
                good &= after == -2 || after == then[b];
            }
            if (good) {
                int digits = 0;
                for (int c : row) {
                    digits = digits * 10 + c + 3;
                }
                found.add(digits);
            }
        }
        return found;
    }

    // ---- the face

    int feed(int a, int b, int c, int d, int e) {
        if (tape.size() + 20 > 800) {
            return NONE;
        }
        for (int n : new int[] {a, b, c, d, e}) {
            for (byte x : java.nio.ByteBuffer.allocate(4).putInt(n).array()) {
                tape.add(x);
            }
        }
        return tape.size();
    }

    int tube(int n) {
        if (!in(n, 0, tape.size())) {
            return no(2);
        }
        StringBuilder text = new StringBuilder();
        for (int i = 0; i < n; i++) {
            text.append((char) (tape.get(i) & 255));
        }
        tape.clear();
        Told t;
        try {
            t = read(text.toString());
        } catch (Fault f) {
            fault = f.number;
            place = f.place;
            return no(4);
        }
        fault = 0;
        told = t;
        now = new Now();
        now.cells = new int[t.bits.size()];
        for (int b = 0; b < now.cells.length; b++) {
            now.cells[b] = t.bits.get(b).told;
        }
        now.people = new int[t.people.size()][];
        for (int p = 0; p < now.people.length; p++) {
            now.people[p] = t.people.get(p).clone();
        }
        acts.clear();
        images.clear();
        return yes(now.cells.length);
    }

    int fault() {
        return fault;
    }

    int where() {
        return trouble == 4 ? place : NONE;
    }

    int bit(int b, int what) {
        if (!hasBit(b) || !in(what, 0, 6)) {
            return no(1);
        }
        Bit bit = told.bits.get(b);
        int[] all = {List.of("light", "plain", "heavy", "glued").indexOf(bit.sort), bit.told, now.cells[b],
                tops(now.cells).contains(b) ? 1 : 0, weight(b), bit.want, bit.after};
        return yes(all[what]);
    }

    int top(int cell) {
        if (told == null) {
            return no(1);
        }
        return in(cell, 0, 11) ? yes(topOf(now.cells, cell)) : no(2);
    }

    int stack(int cell) {
        if (told == null) {
            return no(1);
        }
        if (!in(cell, 0, 11)) {
            return no(2);
        }
        int sum = 0;
        for (int b = 0; b < now.cells.length; b++) {
            sum += now.cells[b] == cell ? 1 << b : 0;
        }
        return yes(sum);
    }

    int seen(int country, int cell) {
        if (told == null) {
            return no(1);
        }
        return in(country, 0, 5) && in(cell, 0, 11) ? yes(shown(country, cell)) : no(2);
    }

    int lies(int b, int country) {
        if (!hasBit(b)) {
            return no(1);
        }
        if (!in(country, 0, 5)) {
            return no(2);
        }
        for (int c = 0; c < 12; c++) {
            int cell = country % 2 == 0 ? ring(c - 2 * country) : ring(11 - c + 2 * country);
            if (cell == now.cells[b]) {
                return yes(c);
            }
        }
        throw new IllegalStateException();
    }

    int under() {
        if (told == null) {
            return no(1);
        }
        int sum = (1 << now.cells.length) - 1;
        for (int b : tops(now.cells)) {
            sum -= 1 << b;
        }
        return yes(sum);
    }

    int until(int b) {
        if (!hasBit(b)) {
            return no(1);
        }
        int[] cells = now.cells;
        for (int k = 0; k <= 24; k++) {
            if (tops(cells).contains(b)) {
                return yes(k);
            }
            cells = turned(cells, 1);
        }
        return yes(-2);
    }

    int behind(int b, int clicks) {
        if (!hasBit(b)) {
            return no(1);
        }
        return in(clicks, -6, 6) ? yes(turned(now.cells, clicks)[b]) : no(2);
    }

    int topsBehind(int clicks) {
        if (told == null) {
            return no(1);
        }
        return in(clicks, -6, 6) ? yes(tops(turned(now.cells, clicks)).size()) : no(2);
    }

    int twins() {
        if (told == null) {
            return no(1);
        }
        for (int code = 1; code <= 45; code++) {
            int a = code / 10;
            int b = code % 10;
            if (a < b && b < told.bits.size() && told.bits.get(a).colour.equals(told.bits.get(b).colour)) {
                return yes(code);
            }
        }
        return yes(-2);
    }

    int mostTops() {
        if (told == null) {
            return no(1);
        }
        int best = 6;
        for (int c = 6; c >= -6; c--) {
            if (tops(turned(now.cells, c)).size() >= tops(turned(now.cells, best)).size()) {
                best = c;
            }
        }
        return yes(best + 6);
    }

    private int right(int[] cells) {
        int sum = 0;
        for (int b = 0; b < cells.length; b++) {
            sum += told.bits.get(b).want == cells[b] ? 1 << b : 0;
        }
        return sum;
    }

    int right() {
        return told == null ? no(1) : yes(right(now.cells));
    }

    int turnsTo() {
        if (told == null) {
            return no(1);
        }
        int[] row = rowToWant();
        return yes(row == null ? -2 : row.length);
    }

    int turnAt(int i) {
        if (told == null) {
            return no(1);
        }
        int[] row = rowToWant();
        if (row == null) {
            return no(6);
        }
        return in(i, 0, row.length - 1) ? yes(row[i] + 3) : no(1);
    }

    int bestTurn() {
        if (told == null) {
            return no(1);
        }
        int best = 3;
        for (int c = 3; c >= -3; c--) {
            if (Integer.bitCount(right(turned(now.cells, c)))
                    >= Integer.bitCount(right(turned(now.cells, best)))) {
                best = c;
            }
        }
        return yes(best + 3);
    }

    int can(int b, int cell) {
        if (!hasBit(b)) {
            return no(1);
        }
        if (!in(cell, 0, 11)) {
            return no(2);
        }
        Set<Integer> reached = new HashSet<>();
        List<int[]> open = new ArrayList<>();
        open.add(now.cells);
        reached.add(now.cells[b]);
        for (int i = 0; i < open.size(); i++) {
            for (int c = -3; c <= 3; c++) {
                int[] then = turned(open.get(i), c);
                if (reached.add(then[b])) {
                    open.add(then);
                }
            }
        }
        return yes(reached.contains(cell) ? 1 : 0);
    }

    int made(int n) {
        if (told == null) {
            return no(1);
        }
        return in(n, 0, 4) ? yes(madeRows(n).size()) : no(2);
    }

    int madeAt(int n, int i) {
        if (told == null) {
            return no(1);
        }
        if (!in(n, 0, 4)) {
            return no(2);
        }
        List<Integer> rows = madeRows(n);
        return in(i, 0, rows.size() - 1) ? yes(rows.get(i)) : no(1);
    }

    int fewestMade() {
        if (told == null) {
            return no(1);
        }
        for (int n = 0; n <= 4; n++) {
            if (!madeRows(n).isEmpty()) {
                return yes(n);
            }
        }
        return yes(-2);
    }

    int same(int n) {
        if (told == null) {
            return no(1);
        }
        if (!in(n, 0, 4)) {
            return no(2);
        }
        int count = 0;
        for (int[] row : rows(n)) {
            count += java.util.Arrays.equals(made(now.cells, row), now.cells) ? 1 : 0;
        }
        return yes(count);
    }

    int joins(int country) {
        if (told == null) {
            return no(1);
        }
        if (!in(country, 0, 5)) {
            return no(2);
        }
        Set<Integer> found = new HashSet<>(List.of(shown(country, 0)));
        found.add(shown(country, 11));
        int sum = 0;
        for (int b : found) {
            sum += b < 0 ? 0 : 1 << b;
        }
        return yes(sum);
    }

    int alike(int country, int other) {
        if (told == null) {
            return no(1);
        }
        if (!in(country, 0, 5) || !in(other, 0, 5)) {
            return no(2);
        }
        int count = 0;
        for (int c = 0; c < 12; c++) {
            count += shown(country, c) == shown(other, c) ? 1 : 0;
        }
        return yes(count);
    }

    private List<Integer> whichOnes() {
        List<Integer> all = new ArrayList<>();
        for (int j = 0; j < 6; j++) {
            boolean good = true;
            for (int m = 0; m < told.metCells.size(); m++) {
                good &= colourShown(j, told.metCells.get(m)).equals(told.metColours.get(m));
            }
            if (good) {
                all.add(j);
            }
        }
        return all;
    }

    int which() {
        if (told == null) {
            return no(1);
        }
        int sum = 0;
        for (int j : whichOnes()) {
            sum += 1 << j;
        }
        return yes(sum);
    }

    int surely() {
        if (told == null) {
            return no(1);
        }
        return yes(whichOnes().size() == 1 ? whichOnes().get(0) : -2);
    }

    private int left(int cell) {
        Map<String, Integer> groups = new HashMap<>();
        for (int j : whichOnes()) {
            groups.merge(colourShown(j, cell), 1, Integer::sum);
        }
        int most = 0;
        for (int n : groups.values()) {
            most = Math.max(most, n);
        }
        return most;
    }

    int look() {
        if (told == null) {
            return no(1);
        }
        if (whichOnes().isEmpty()) {
            return yes(-2);
        }
        int best = 11;
        for (int c = 11; c >= 0; c--) {
            if (left(c) <= left(best)) {
                best = c;
            }
        }
        return yes(best);
    }

    int lookLeaves() {
        if (told == null) {
            return no(1);
        }
        if (whichOnes().isEmpty()) {
            return yes(-2);
        }
        int least = 6;
        for (int c = 0; c < 12; c++) {
            least = Math.min(least, left(c));
        }
        return yes(least);
    }

    int judge(int country) {
        if (told == null) {
            return no(1);
        }
        if (!in(country, 0, 5)) {
            return no(2);
        }
        for (int m = 0; m < told.metCells.size(); m++) {
            if (!colourShown(country, told.metCells.get(m)).equals(told.metColours.get(m))) {
                return yes(m);
            }
        }
        return yes(-2);
    }

    /** The chance of from to n times, in parts of a hundred to the n-th, click by click. */
    private BigInteger chance(int n, int from, int to) {
        if (n == 0) {
            return from <= 0 && to >= 0 ? BigInteger.ONE : BigInteger.ZERO;
        }
        return chance(n - 1, from - 1, to - 1).multiply(BigInteger.valueOf(told.rolls))
                .add(chance(n - 1, from, to).multiply(BigInteger.valueOf(100 - told.rolls)));
    }

    private long odds(int n, int times, int to, boolean lower) {
        if (told == null) {
            return no(1);
        }
        if (!in(n, 0, 8) || !in(times, 0, n)) {
            return no(2);
        }
        trouble = 0;
        BigInteger up = chance(n, times, to);
        BigInteger low = BigInteger.valueOf(100).pow(n);
        BigInteger common = up.gcd(low);
        return (lower ? low : up).divide(common).longValueExact();
    }

    long rolls(int n, int times, boolean lower) {
        return odds(n, times, times, lower);
    }

    long rollsMore(int n, int times, boolean lower) {
        return odds(n, times, n, lower);
    }

    int watch(int cells) {
        if (told == null) {
            return no(1);
        }
        if (!in(cells, 0, 6)) {
            return no(2);
        }
        for (int count = 1; count <= 12; count++) {
            for (int mask = 1; mask < 4096; mask++) {
                if (Integer.bitCount(mask) == count && watched(mask, cells)) {
                    return yes(mask);
                }
            }
        }
        throw new IllegalStateException();
    }

    private boolean watched(int mask, int reach) {
        for (int cell : now.cells) {
            boolean good = false;
            for (int d = -reach; d <= reach; d++) {
                good |= (mask >> ring(cell + d) & 1) == 1;
            }
            if (!good) {
                return false;
            }
        }
        return true;
    }

    int person(int p, int what) {
        return hasPerson(p) && in(what, 0, 2) ? yes(now.people[p][what]) : no(1);
    }

    /** The cell beside one, by the words of the document. */
    private static int[] beside(int country, int cell, boolean up) {
        boolean even = country % 2 == 0;
        int next = even == up ? cell + 1 : cell - 1;
        if (in(next, 0, 11)) {
            return new int[] {country, next};
        }
        if (cell == 11) {
            return new int[] {even ? country + 1 : country - 1, 11};
        }
        return new int[] {even ? (country + 5) % 6 : (country + 1) % 6, 0};
    }

    private int step(int[] to) {
        int b = shown(to[0], to[1]);
        return b < 0 ? 1 : 1 + weight(b);
    }

    private int length(int p, int country, int cell, boolean up) {
        int[] at = {now.people[p][0], now.people[p][1]};
        int sum = 0;
        while (at[0] != country || at[1] != cell) {
            at = beside(at[0], at[1], up);
            sum += step(at);
        }
        return sum;
    }

    private int wayOf(int p, int country, int cell) {
        return Math.min(length(p, country, cell, true), length(p, country, cell, false));
    }

    int way(int p, int country, int cell) {
        if (!hasPerson(p)) {
            return no(1);
        }
        return in(country, 0, 5) && in(cell, 0, 11) ? yes(wayOf(p, country, cell)) : no(2);
    }

    int wayUp(int p, int country, int cell) {
        if (!hasPerson(p)) {
            return no(1);
        }
        if (!in(country, 0, 5) || !in(cell, 0, 11)) {
            return no(2);
        }
        int up = length(p, country, cell, true);
        return yes(up > 0 && up <= length(p, country, cell, false) ? 1 : 0);
    }

    int nearest(int p, int b) {
        if (!hasPerson(p) || !hasBit(b)) {
            return no(1);
        }
        int best = -2;
        for (int j = 0; j < 6; j++) {
            for (int c = 0; c < 12; c++) {
                if (shown(j, c) == b && (best == -2 || wayOf(p, j, c) < best)) {
                    best = wayOf(p, j, c);
                }
            }
        }
        return yes(best);
    }

    int farthest(int p) {
        if (!hasPerson(p)) {
            return no(1);
        }
        int best = 5;
        for (int j = 5; j >= 0; j--) {
            if (wayOf(p, j, 0) >= wayOf(p, best, 0)) {
                best = j;
            }
        }
        return yes(best);
    }

    int ring() {
        if (told == null) {
            return no(1);
        }
        int[] at = {3, 7};
        int sum = 0;
        do {
            at = beside(at[0], at[1], true);
            sum += step(at);
        } while (at[0] != 3 || at[1] != 7);
        return yes(sum);
    }

    private int has(int one, int other, boolean ofOther) {
        int[] cells = turned(now.cells, one + other);
        int tops = tops(cells).size();
        return ofOther ? cells.length - tops - Math.abs(other) : tops - Math.abs(one);
    }

    int two(int one, int other, boolean ofOther) {
        if (told == null || !in(one, -3, 3) || !in(other, -3, 3)) {
            no(told == null ? 1 : 2);
            return -100;
        }
        return yes(has(one, other, ofOther));
    }

    private List<Integer> allRests() {
        List<Integer> all = new ArrayList<>();
        for (int one = -3; one <= 3; one++) {
            for (int other = -3; other <= 3; other++) {
                int mostOne = -100;
                int mostOther = -100;
                for (int k = -3; k <= 3; k++) {
                    mostOne = Math.max(mostOne, has(k, other, false));
                    mostOther = Math.max(mostOther, has(one, k, true));
                }
                if (has(one, other, false) == mostOne && has(one, other, true) == mostOther) {
                    all.add(10 * (one + 3) + other + 3);
                }
            }
        }
        return all;
    }

    int rests() {
        return told == null ? no(1) : yes(allRests().size());
    }

    int rest() {
        if (told == null) {
            return no(1);
        }
        return yes(allRests().isEmpty() ? -2 : allRests().get(0));
    }

    /** The cells behind each of n days. */
    private List<int[]> days(int seed, int n) {
        List<int[]> all = new ArrayList<>();
        int[] cells = now.cells;
        long s = seed;
        for (int k = 0; k < n; k++) {
            if (!told.holidays.contains(now.day + k)) {
                s = (75 * s + 74) % 65537;
                cells = turned(cells, (int) (s % 7) - 3);
            }
            all.add(cells);
        }
        return all;
    }

    int shaken(int b, int seed, int n) {
        if (!hasBit(b)) {
            return no(1);
        }
        if (!in(seed, 0, 65536) || !in(n, 0, 60)) {
            return no(2);
        }
        return yes(n == 0 ? now.cells[b] : days(seed, n).get(n - 1)[b]);
    }

    int topDays(int b, int seed, int n) {
        if (!hasBit(b)) {
            return no(1);
        }
        if (!in(seed, 0, 65536) || !in(n, 0, 60)) {
            return no(2);
        }
        int count = 0;
        for (int[] cells : days(seed, n)) {
            count += tops(cells).contains(b) ? 1 : 0;
        }
        return yes(count);
    }

    int rightDays(int seed, int n) {
        if (told == null) {
            return no(1);
        }
        if (!in(seed, 0, 65536) || !in(n, 0, 60)) {
            return no(2);
        }
        int count = 0;
        for (int[] cells : days(seed, n)) {
            count += allRight(cells) ? 1 : 0;
        }
        return yes(count);
    }

    private void keep() {
        acts.add(now.copy());
        if (acts.size() > 16) {
            acts.remove(0);
        }
    }

    int turn(int clicks) {
        if (told == null) {
            return no(1);
        }
        if (clicks == 0 || !in(clicks, -6, 6)) {
            return no(2);
        }
        if (told.holidays.contains(now.day)) {
            return no(5);
        }
        keep();
        now.cells = turned(now.cells, clicks);
        return yes(tops(now.cells).size());
    }

    int go(int p, boolean up) {
        if (!hasPerson(p)) {
            return no(1);
        }
        keep();
        int[] to = beside(now.people[p][0], now.people[p][1], up);
        int length = step(to);
        now.people[p] = new int[] {to[0], to[1], now.people[p][2] + length};
        return yes(length);
    }

    int waits(int days) {
        if (told == null) {
            return no(1);
        }
        if (!in(days, 1, 99)) {
            return no(2);
        }
        if (now.day + days > 999) {
            return no(3);
        }
        keep();
        now.day += days;
        return yes(now.day);
    }

    boolean undo() {
        if (acts.isEmpty()) {
            no(6);
            return false;
        }
        now = acts.remove(acts.size() - 1);
        yes(0);
        return true;
    }

    int image() {
        if (told == null) {
            return no(1);
        }
        if (images.size() == 3) {
            return no(3);
        }
        images.add(now.copy());
        return yes(images.size() - 1);
    }

    boolean back(int image) {
        if (!in(image, 0, images.size() - 1)) {
            no(1);
            return false;
        }
        now = images.get(image).copy();
        acts.clear();
        yes(0);
        return true;
    }

    int led(int i) {
        if (told == null || !in(i, 0, tops(now.cells).size() - 1)) {
            throw new NoSuchElementException();
        }
        return tops(now.cells).get(i);
    }

    int size(int what) {
        if (what == 10) {
            return tape.size();
        }
        if (!in(what, 0, 10)) {
            return NONE;
        }
        if (told == null) {
            return 0;
        }
        int wants = 0;
        int afters = 0;
        for (Bit b : told.bits) {
            wants += b.want == -2 ? 0 : 1;
            afters += b.after == -2 ? 0 : 1;
        }
        int[] all = {told.rolls, told.bits.size(), wants, afters, told.metCells.size(), told.holidays.size(),
                told.people.size(), now.day, acts.size(), images.size()};
        return all[what];
    }

    int trouble() {
        return trouble;
    }
}
