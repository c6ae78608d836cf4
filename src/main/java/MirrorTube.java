import java.util.NoSuchElementException;

/**
 * A kaleidoscope read as a map: a tube of twelve cells, the bits that fall in it when it is turned,
 * and the six countries that its mirrors show.
 */
public final class MirrorTube {
    public static final int NONE = -1;

    // An answer, not a refusal: so it must differ from NONE.
    private static final int NOTHING = -2;
    // What a player has can be -1 or -2, so two() refuses by a number out of reach.
    private static final int NO_SHARE = -100;

    private static final int NO_TROUBLE = 0;
    private static final int NONE_SUCH = 1;
    private static final int BAD_NUMBER = 2;
    private static final int NO_ROOM = 3;
    private static final int FAULTY = 4;
    private static final int NOT_SO = 5;
    private static final int THERE_IS_NONE = 6;

    private static final int FORM = 1;
    private static final int UNTOLD = 2;
    private static final int AGAIN = 3;
    private static final int BOUNDS = 4;
    private static final int MANY = 5;
    private static final int LACKS = 6;

    private static final int TAPE_ROOM = 800;
    private static final int FEED_BYTES = 20;

    private static final int CELLS = 12;
    private static final int LAST_CELL = 11;
    private static final int COUNTRIES = 6;
    private static final int SPOTS = 72;

    private static final int MAX_BITS = 6;
    private static final int MAX_METS = 6;
    private static final int MAX_HOLIDAYS = 8;
    private static final int MAX_PEOPLE = 4;
    private static final int LAST_HOLIDAY = 99;
    private static final int LAST_DAY = 999;
    private static final int LONGEST_WAIT = 99;
    private static final int HUNDRED = 100;

    private static final int LIGHT = 0;
    private static final int PLAIN = 1;
    private static final int HEAVY = 2;
    private static final int GLUED = 3;

    // What rows of TURNS are to bring about.
    private static final int WANTED = 0;
    private static final int AFTER = 1;
    private static final int AS_NOW = 2;

    private static final int MOST_CLICKS = 6;
    private static final int HAND_CLICKS = 3;
    private static final int LONGEST_WANTED = 5;
    private static final int LONGEST_MADE = 4;
    private static final int UNTIL_TURNS = 24;
    private static final int MOST_ROLLS = 8;
    private static final int MOST_REACH = 6;
    private static final int MOST_SHAKES = 60;
    private static final int LAST_SEED = 65536;
    private static final int SEED_RING = 65537;

    private final Reader reader = new Reader();
    private final Scene scene = new Scene();
    private final Memory memory = new Memory();
    private final Rows rows = new Rows();
    private final Shakes shakes = new Shakes();
    private int latestTrouble;

    public MirrorTube() {
    }

    // ---- the tube

    public int feed(int a, int b, int c, int d, int e) {
        if (reader.tape.length + FEED_BYTES > TAPE_ROOM) {
            return NONE;
        }
        reader.tape.put(a);
        reader.tape.put(b);
        reader.tape.put(c);
        reader.tape.put(d);
        reader.tape.put(e);
        return reader.tape.length;
    }

    public int tube(int n) {
        if (n < 0 || n > reader.tape.length) {
            return refuse(BAD_NUMBER);
        }
        boolean faultless = reader.reads(n);
        reader.tape.length = 0;
        if (!faultless) {
            return refuse(FAULTY);
        }
        reader.draft = scene.begin(reader.draft);
        memory.forget();
        return answer(scene.plan.bits);
    }

    public int fault() {
        return reader.fault;
    }

    public int where() {
        return latestTrouble == FAULTY ? reader.faultPlace : NONE;
    }

    // ---- now

    public int bit(int b, int what) {
        if (!isBit(b)) {
            return refuse(NONE_SUCH);
        }
        switch (what) {
            case 0:
                return answer(scene.plan.sort[b]);
            case 1:
                return answer(scene.plan.toldCell[b]);
            case 2:
                return answer(scene.cellBehind(b, 0, 0));
            case 3:
                return answer(scene.isTop(b, 0, 0) ? 1 : 0);
            case 4:
                return answer(scene.plan.weight(b));
            case 5:
                return answer(scene.plan.wantCell[b]);
            case 6:
                return answer(scene.plan.afterCell[b]);
            default:
                return refuse(NONE_SUCH);
        }
    }

    public int top(int cell) {
        if (noTube()) {
            return refuse(NONE_SUCH);
        }
        if (!isCell(cell)) {
            return refuse(BAD_NUMBER);
        }
        return answer(scene.topIn(cell, 0, 0));
    }

    public int stack(int cell) {
        if (noTube()) {
            return refuse(NONE_SUCH);
        }
        if (!isCell(cell)) {
            return refuse(BAD_NUMBER);
        }
        return answer(scene.bitsIn(cell));
    }

    public int seen(int country, int cell) {
        if (noTube()) {
            return refuse(NONE_SUCH);
        }
        if (!isCountry(country) || !isCell(cell)) {
            return refuse(BAD_NUMBER);
        }
        return answer(scene.shownAt(country, cell));
    }

    public int lies(int b, int country) {
        if (!isBit(b)) {
            return refuse(NONE_SUCH);
        }
        if (!isCountry(country)) {
            return refuse(BAD_NUMBER);
        }
        return answer(mirroredCell(country, scene.cellBehind(b, 0, 0)));
    }

    public int under() {
        if (noTube()) {
            return refuse(NONE_SUCH);
        }
        return answer(scene.bitsUnder());
    }

    public int until(int b) {
        if (!isBit(b)) {
            return refuse(NONE_SUCH);
        }
        // A heavy bit goes nowhere by single clicks, however many: the half of each is 0.
        for (int turns = 0; turns <= UNTIL_TURNS; turns++) {
            if (scene.isTop(b, turns, 0)) {
                return answer(turns);
            }
        }
        return answer(NOTHING);
    }

    public int behind(int b, int clicks) {
        if (!isBit(b)) {
            return refuse(NONE_SUCH);
        }
        if (!isTurn(clicks)) {
            return refuse(BAD_NUMBER);
        }
        return answer(scene.cellBehind(b, clicks, half(clicks)));
    }

    public int topsBehind(int clicks) {
        if (noTube()) {
            return refuse(NONE_SUCH);
        }
        if (!isTurn(clicks)) {
            return refuse(BAD_NUMBER);
        }
        return answer(scene.topCount(clicks, half(clicks)));
    }

    public int twins() {
        if (noTube()) {
            return refuse(NONE_SUCH);
        }
        return answer(scene.plan.firstTwins());
    }

    public int mostTops() {
        if (noTube()) {
            return refuse(NONE_SUCH);
        }
        int best = -MOST_CLICKS;
        int most = -1;
        for (int clicks = -MOST_CLICKS; clicks <= MOST_CLICKS; clicks++) {
            int tops = scene.topCount(clicks, half(clicks));
            if (tops > most) {
                most = tops;
                best = clicks;
            }
        }
        return answer(best + MOST_CLICKS);
    }

    // ---- turns

    public int right() {
        if (noTube()) {
            return refuse(NONE_SUCH);
        }
        return answer(scene.rightBits(0, 0));
    }

    public int turnsTo() {
        if (noTube()) {
            return refuse(NONE_SUCH);
        }
        aimAt(WANTED);
        return answer(rows.fewestTurns(LONGEST_WANTED));
    }

    public int turnAt(int i) {
        if (noTube()) {
            return refuse(NONE_SUCH);
        }
        aimAt(WANTED);
        int turns = rows.fewestTurns(LONGEST_WANTED);
        if (turns == NOTHING) {
            return refuse(THERE_IS_NONE);
        }
        if (i < 0 || i >= turns) {
            return refuse(NONE_SUCH);
        }
        int digits = rows.rowAt(turns, 0);
        for (int later = i + 1; later < turns; later++) {
            digits = digits / 10;
        }
        return answer(digits % 10);
    }

    public int bestTurn() {
        if (noTube()) {
            return refuse(NONE_SUCH);
        }
        int best = -HAND_CLICKS;
        int most = -1;
        for (int clicks = -HAND_CLICKS; clicks <= HAND_CLICKS; clicks++) {
            int count = Integer.bitCount(scene.rightBits(clicks, half(clicks)));
            if (count > most) {
                most = count;
                best = clicks;
            }
        }
        return answer(best + HAND_CLICKS);
    }

    public int can(int b, int cell) {
        if (!isBit(b)) {
            return refuse(NONE_SUCH);
        }
        if (!isCell(cell)) {
            return refuse(BAD_NUMBER);
        }
        return answer(scene.canLie(b, cell) ? 1 : 0);
    }

    public int made(int n) {
        if (noTube()) {
            return refuse(NONE_SUCH);
        }
        if (!isMadeLength(n)) {
            return refuse(BAD_NUMBER);
        }
        aimAt(AFTER);
        return answer(rows.rowsToGoal(n, 0, 0));
    }

    public int madeAt(int n, int i) {
        if (noTube()) {
            return refuse(NONE_SUCH);
        }
        if (!isMadeLength(n)) {
            return refuse(BAD_NUMBER);
        }
        aimAt(AFTER);
        if (i < 0 || i >= rows.rowsToGoal(n, 0, 0)) {
            return refuse(NONE_SUCH);
        }
        return answer(rows.rowAt(n, i));
    }

    public int fewestMade() {
        if (noTube()) {
            return refuse(NONE_SUCH);
        }
        aimAt(AFTER);
        return answer(rows.fewestTurns(LONGEST_MADE));
    }

    public int same(int n) {
        if (noTube()) {
            return refuse(NONE_SUCH);
        }
        if (!isMadeLength(n)) {
            return refuse(BAD_NUMBER);
        }
        aimAt(AS_NOW);
        return answer(rows.rowsToGoal(n, 0, 0));
    }

    // ---- countries

    public int joins(int country) {
        if (noTube()) {
            return refuse(NONE_SUCH);
        }
        if (!isCountry(country)) {
            return refuse(BAD_NUMBER);
        }
        return answer(asBit(scene.shownAt(country, 0)) | asBit(scene.shownAt(country, LAST_CELL)));
    }

    public int alike(int country, int other) {
        if (noTube()) {
            return refuse(NONE_SUCH);
        }
        if (!isCountry(country) || !isCountry(other)) {
            return refuse(BAD_NUMBER);
        }
        int count = 0;
        for (int cell = 0; cell < CELLS; cell++) {
            if (scene.shownAt(country, cell) == scene.shownAt(other, cell)) {
                count++;
            }
        }
        return answer(count);
    }

    public int which() {
        if (noTube()) {
            return refuse(NONE_SUCH);
        }
        return answer(scene.countriesMet());
    }

    public int surely() {
        if (noTube()) {
            return refuse(NONE_SUCH);
        }
        int countries = scene.countriesMet();
        if (Integer.bitCount(countries) != 1) {
            return answer(NOTHING);
        }
        return answer(Integer.numberOfTrailingZeros(countries));
    }

    public int look() {
        if (noTube()) {
            return refuse(NONE_SUCH);
        }
        return answer(scene.bestLook(scene.countriesMet()));
    }

    public int lookLeaves() {
        if (noTube()) {
            return refuse(NONE_SUCH);
        }
        int countries = scene.countriesMet();
        int cell = scene.bestLook(countries);
        return answer(cell == NOTHING ? NOTHING : scene.mostLeft(countries, cell));
    }

    public int judge(int country) {
        if (noTube()) {
            return refuse(NONE_SUCH);
        }
        if (!isCountry(country)) {
            return refuse(BAD_NUMBER);
        }
        return answer(scene.firstNotMet(country));
    }

    // ---- a bead, watches

    public long rolls(int n, int times, boolean lower) {
        if (noTube()) {
            return refuse(NONE_SUCH);
        }
        if (!areRolls(n, times)) {
            return refuse(BAD_NUMBER);
        }
        latestTrouble = NO_TROUBLE;
        return oddsPart(n, times, times, lower);
    }

    public long rollsMore(int n, int times, boolean lower) {
        if (noTube()) {
            return refuse(NONE_SUCH);
        }
        if (!areRolls(n, times)) {
            return refuse(BAD_NUMBER);
        }
        latestTrouble = NO_TROUBLE;
        return oddsPart(n, times, n, lower);
    }

    public int watch(int cells) {
        if (noTube()) {
            return refuse(NONE_SUCH);
        }
        if (cells < 0 || cells > MOST_REACH) {
            return refuse(BAD_NUMBER);
        }
        return answer(scene.fewestWatchers(cells));
    }

    // ---- people

    public int person(int p, int what) {
        if (!isPerson(p)) {
            return refuse(NONE_SUCH);
        }
        switch (what) {
            case 0:
                return answer(countryAt(scene.spotOf(p)));
            case 1:
                return answer(cellAt(scene.spotOf(p)));
            case 2:
                return answer(scene.stepsOf(p));
            default:
                return refuse(NONE_SUCH);
        }
    }

    public int way(int p, int country, int cell) {
        if (!isPerson(p)) {
            return refuse(NONE_SUCH);
        }
        if (!isCountry(country) || !isCell(cell)) {
            return refuse(BAD_NUMBER);
        }
        return answer(scene.wayLength(scene.spotOf(p), spotAt(country, cell)));
    }

    public int wayUp(int p, int country, int cell) {
        if (!isPerson(p)) {
            return refuse(NONE_SUCH);
        }
        if (!isCountry(country) || !isCell(cell)) {
            return refuse(BAD_NUMBER);
        }
        return answer(scene.goesUp(scene.spotOf(p), spotAt(country, cell)) ? 1 : 0);
    }

    public int nearest(int p, int b) {
        if (!isPerson(p) || !isBit(b)) {
            return refuse(NONE_SUCH);
        }
        return answer(scene.nearestLength(scene.spotOf(p), b));
    }

    public int farthest(int p) {
        if (!isPerson(p)) {
            return refuse(NONE_SUCH);
        }
        return answer(scene.farthestCountry(scene.spotOf(p)));
    }

    public int ring() {
        if (noTube()) {
            return refuse(NONE_SUCH);
        }
        int length = 0;
        for (int spot = 0; spot < SPOTS; spot++) {
            length += scene.stepInto(spot);
        }
        return answer(length);
    }

    // ---- two turn

    public int two(int one, int other, boolean ofOther) {
        if (noTube()) {
            latestTrouble = NONE_SUCH;
            return NO_SHARE;
        }
        if (!isHandTurn(one) || !isHandTurn(other)) {
            latestTrouble = BAD_NUMBER;
            return NO_SHARE;
        }
        return answer(shareOf(one, other, ofOther));
    }

    public int rests() {
        if (noTube()) {
            return refuse(NONE_SUCH);
        }
        int count = 0;
        for (int one = -HAND_CLICKS; one <= HAND_CLICKS; one++) {
            for (int other = -HAND_CLICKS; other <= HAND_CLICKS; other++) {
                if (isRest(one, other)) {
                    count++;
                }
            }
        }
        return answer(count);
    }

    public int rest() {
        if (noTube()) {
            return refuse(NONE_SUCH);
        }
        for (int one = -HAND_CLICKS; one <= HAND_CLICKS; one++) {
            for (int other = -HAND_CLICKS; other <= HAND_CLICKS; other++) {
                if (isRest(one, other)) {
                    return answer(10 * (one + HAND_CLICKS) + other + HAND_CLICKS);
                }
            }
        }
        return answer(NOTHING);
    }

    // ---- shakes

    public int shaken(int b, int seed, int n) {
        if (!isBit(b)) {
            return refuse(NONE_SUCH);
        }
        if (!areShakes(seed, n)) {
            return refuse(BAD_NUMBER);
        }
        shakes.begin(seed, scene.day());
        for (int days = 0; days < n; days++) {
            shakes.passDay(scene.plan);
        }
        return answer(scene.cellBehind(b, shakes.byPlain, shakes.byHeavy));
    }

    public int topDays(int b, int seed, int n) {
        if (!isBit(b)) {
            return refuse(NONE_SUCH);
        }
        if (!areShakes(seed, n)) {
            return refuse(BAD_NUMBER);
        }
        shakes.begin(seed, scene.day());
        int count = 0;
        for (int days = 0; days < n; days++) {
            shakes.passDay(scene.plan);
            if (scene.isTop(b, shakes.byPlain, shakes.byHeavy)) {
                count++;
            }
        }
        return answer(count);
    }

    public int rightDays(int seed, int n) {
        if (noTube()) {
            return refuse(NONE_SUCH);
        }
        if (!areShakes(seed, n)) {
            return refuse(BAD_NUMBER);
        }
        shakes.begin(seed, scene.day());
        int count = 0;
        for (int days = 0; days < n; days++) {
            shakes.passDay(scene.plan);
            if (scene.allRight(shakes.byPlain, shakes.byHeavy)) {
                count++;
            }
        }
        return answer(count);
    }

    // ---- acts

    public int turn(int clicks) {
        if (noTube()) {
            return refuse(NONE_SUCH);
        }
        if (clicks == 0 || !isTurn(clicks)) {
            return refuse(BAD_NUMBER);
        }
        if (scene.plan.isHoliday(scene.day())) {
            return refuse(NOT_SO);
        }
        memory.keepAct(scene.now);
        scene.turnAll(clicks);
        return answer(scene.topCount(0, 0));
    }

    public int go(int p, boolean up) {
        if (!isPerson(p)) {
            return refuse(NONE_SUCH);
        }
        memory.keepAct(scene.now);
        return answer(scene.stepPerson(p, up));
    }

    public int waits(int days) {
        if (noTube()) {
            return refuse(NONE_SUCH);
        }
        if (days < 1 || days > LONGEST_WAIT) {
            return refuse(BAD_NUMBER);
        }
        if (scene.day() + days > LAST_DAY) {
            return refuse(NO_ROOM);
        }
        memory.keepAct(scene.now);
        scene.passDays(days);
        return answer(scene.day());
    }

    public boolean undo() {
        return told(memory.undoInto(scene.now), THERE_IS_NONE);
    }

    public int image() {
        if (noTube()) {
            return refuse(NONE_SUCH);
        }
        int number = memory.keepImage(scene.now);
        return number == NONE ? refuse(NO_ROOM) : answer(number);
    }

    public boolean back(int image) {
        return told(memory.backInto(image, scene.now), NONE_SUCH);
    }

    // ---- what is told

    public int led(int i) throws NoSuchElementException {
        int before = 0;
        for (int b = 0; b < scene.plan.bits; b++) {
            if (scene.isTop(b, 0, 0)) {
                if (before == i) {
                    return b;
                }
                before++;
            }
        }
        throw new NoSuchElementException();
    }

    public int size(int what) {
        switch (what) {
            case 0:
                return scene.plan.chance;
            case 1:
                return scene.plan.bits;
            case 2:
                return scene.plan.cellsTold(scene.plan.wantCell);
            case 3:
                return scene.plan.cellsTold(scene.plan.afterCell);
            case 4:
                return scene.plan.mets;
            case 5:
                return scene.plan.holidays;
            case 6:
                return scene.plan.people;
            case 7:
                return scene.day();
            case 8:
                return memory.acts;
            case 9:
                return memory.images;
            case 10:
                return reader.tape.length;
            default:
                return NONE;
        }
    }

    public int trouble() {
        return latestTrouble;
    }

    // ---- how a call ends

    private int refuse(int number) {
        latestTrouble = number;
        return NONE;
    }

    private int answer(int value) {
        latestTrouble = NO_TROUBLE;
        return value;
    }

    private boolean told(boolean worked, int otherwise) {
        latestTrouble = worked ? NO_TROUBLE : otherwise;
        return worked;
    }

    // ---- what a call may name

    private boolean noTube() {
        return scene.plan.bits == 0;
    }

    private boolean isBit(int b) {
        return b >= 0 && b < scene.plan.bits;
    }

    private boolean isPerson(int p) {
        return p >= 0 && p < scene.plan.people;
    }

    private static boolean isCell(int cell) {
        return cell >= 0 && cell < CELLS;
    }

    private static boolean isCountry(int country) {
        return country >= 0 && country < COUNTRIES;
    }

    private static boolean isTurn(int clicks) {
        return clicks >= -MOST_CLICKS && clicks <= MOST_CLICKS;
    }

    private static boolean isHandTurn(int clicks) {
        return clicks >= -HAND_CLICKS && clicks <= HAND_CLICKS;
    }

    private static boolean isMadeLength(int n) {
        return n >= 0 && n <= LONGEST_MADE;
    }

    private static boolean areRolls(int n, int times) {
        return n >= 0 && n <= MOST_ROLLS && times >= 0 && times <= n;
    }

    private static boolean areShakes(int seed, int n) {
        return seed >= 0 && seed <= LAST_SEED && n >= 0 && n <= MOST_SHAKES;
    }

    // ---- parts of the calls

    private void aimAt(int goal) {
        for (int byPlain = 0; byPlain < CELLS; byPlain++) {
            for (int byHeavy = 0; byHeavy < CELLS; byHeavy++) {
                rows.aim(byPlain, byHeavy, isAt(goal, byPlain, byHeavy));
            }
        }
    }

    private boolean isAt(int goal, int byPlain, int byHeavy) {
        switch (goal) {
            case WANTED:
                return scene.allRight(byPlain, byHeavy);
            case AFTER:
                return scene.plan.allAfter(byPlain, byHeavy);
            default:
                return scene.plan.movesNone(byPlain, byHeavy);
        }
    }

    private int shareOf(int one, int other, boolean ofOther) {
        int clicks = one + other;
        int tops = scene.topCount(clicks, half(clicks));
        return ofOther ? scene.plan.bits - tops - Math.abs(other) : tops - Math.abs(one);
    }

    private boolean isRest(int one, int other) {
        int ofOne = shareOf(one, other, false);
        int ofOther = shareOf(one, other, true);
        for (int instead = -HAND_CLICKS; instead <= HAND_CLICKS; instead++) {
            if (shareOf(instead, other, false) > ofOne || shareOf(one, instead, true) > ofOther) {
                return false;
            }
        }
        return true;
    }

    // All stays exact in a long: the parts of a hundred to the 8th are at most 10 to the 16th.
    private long oddsPart(int n, int from, int to, boolean lower) {
        long upperPart = 0;
        for (int times = from; times <= to; times++) {
            upperPart += choices(n, times) * power(scene.plan.chance, times)
                    * power(HUNDRED - scene.plan.chance, n - times);
        }
        long lowerPart = power(HUNDRED, n);
        long common = commonDivisor(upperPart, lowerPart);
        if (common <= 0) {
            return lower ? 1 : 0;
        }
        return lower ? lowerPart / common : upperPart / common;
    }

    private static long choices(int n, int times) {
        long count = 1;
        for (int k = 1; k <= times; k++) {
            count = count * (n - k + 1) / k;
        }
        return count;
    }

    private static long power(long base, int exponent) {
        long product = 1;
        for (int k = 0; k < exponent; k++) {
            product *= base;
        }
        return product;
    }

    private static long commonDivisor(long a, long b) {
        long larger = a;
        long smaller = b;
        // Two steps at least halve a number, so 200 are more than any two longs need.
        for (int step = 0; step < 200 && smaller != 0; step++) {
            long left = larger % smaller;
            larger = smaller;
            smaller = left;
        }
        return larger;
    }

    // ---- cells, countries and spots

    private static int half(int clicks) {
        return clicks / 2;
    }

    private static int asBit(int number) {
        return number < 0 ? 0 : 1 << number;
    }

    private static boolean runsUpwards(int country) {
        return country % 2 == 0;
    }

    /** The cell of the tube that a country's cell shows. */
    private static int tubeCell(int country, int cell) {
        int unrolled = runsUpwards(country) ? cell - 2 * country : LAST_CELL - cell + 2 * country;
        return Math.floorMod(unrolled, CELLS);
    }

    /** The cell of a country that shows a cell of the tube. */
    private static int mirroredCell(int country, int cell) {
        int unrolled = runsUpwards(country) ? cell + 2 * country : LAST_CELL - cell + 2 * country;
        return Math.floorMod(unrolled, CELLS);
    }

    // A spot numbers the cells of all countries in the order in which one meets them going UP.
    private static int spotAt(int country, int cell) {
        return country * CELLS + (runsUpwards(country) ? cell : LAST_CELL - cell);
    }

    private static int countryAt(int spot) {
        return spot / CELLS;
    }

    private static int cellAt(int spot) {
        return runsUpwards(countryAt(spot)) ? spot % CELLS : LAST_CELL - spot % CELLS;
    }

    private static int spotBeside(int spot, boolean up) {
        return Math.floorMod(up ? spot + 1 : spot - 1, SPOTS);
    }

    /** What a text has told, unchanged by all acts. */
    private static final class Plan {
        int chance;
        int bits;
        final long[] bitName = new long[MAX_BITS];
        final int[] sort = new int[MAX_BITS];
        final long[] colour = new long[MAX_BITS];
        final int[] toldCell = new int[MAX_BITS];
        final int[] wantCell = new int[MAX_BITS];
        final int[] afterCell = new int[MAX_BITS];
        int mets;
        final int[] metCell = new int[MAX_METS];
        final long[] metColour = new long[MAX_METS];
        int holidays;
        final int[] holiday = new int[MAX_HOLIDAYS];
        int people;
        final long[] personName = new long[MAX_PEOPLE];
        final int[] personSpot = new int[MAX_PEOPLE];

        void clear() {
            chance = 0;
            bits = 0;
            mets = 0;
            holidays = 0;
            people = 0;
        }

        void addBit(long name, int itsSort, long itsColour, int cell) {
            if (bits < MAX_BITS) {
                bitName[bits] = name;
                sort[bits] = itsSort;
                colour[bits] = itsColour;
                toldCell[bits] = cell;
                wantCell[bits] = NOTHING;
                afterCell[bits] = NOTHING;
                bits++;
            }
        }

        void addMet(int cell, long itsColour) {
            if (mets < MAX_METS) {
                metCell[mets] = cell;
                metColour[mets] = itsColour;
                mets++;
            }
        }

        void addHoliday(int day) {
            if (holidays < MAX_HOLIDAYS) {
                holiday[holidays] = day;
                holidays++;
            }
        }

        void addPerson(long name, int spot) {
            if (people < MAX_PEOPLE) {
                personName[people] = name;
                personSpot[people] = spot;
                people++;
            }
        }

        int bitNamed(long name) {
            for (int b = 0; b < bits; b++) {
                if (bitName[b] == name) {
                    return b;
                }
            }
            return NONE;
        }

        boolean isNamed(long name) {
            for (int p = 0; p < people; p++) {
                if (personName[p] == name) {
                    return true;
                }
            }
            return bitNamed(name) != NONE;
        }

        boolean hasMet(int cell) {
            for (int m = 0; m < mets; m++) {
                if (metCell[m] == cell) {
                    return true;
                }
            }
            return false;
        }

        boolean isHoliday(int day) {
            for (int h = 0; h < holidays; h++) {
                if (holiday[h] == day) {
                    return true;
                }
            }
            return false;
        }

        /** For how many bits these cells have been told. */
        int cellsTold(int[] cells) {
            int count = 0;
            for (int b = 0; b < bits && b < cells.length; b++) {
                if (cells[b] != NOTHING) {
                    count++;
                }
            }
            return count;
        }

        int weight(int b) {
            return sort[b] + 1;
        }

        int firstTwins() {
            for (int lesser = 0; lesser < bits; lesser++) {
                for (int other = lesser + 1; other < bits; other++) {
                    if (colour[lesser] == colour[other]) {
                        return 10 * lesser + other;
                    }
                }
            }
            return NOTHING;
        }

        // Of a row of TURNS two sums are enough: all its clicks, and the halves of each.
        int cellMoved(int b, int cell, int byPlain, int byHeavy) {
            switch (sort[b]) {
                case LIGHT:
                    return Math.floorMod(cell + 2 * byPlain, CELLS);
                case PLAIN:
                    return Math.floorMod(cell + byPlain, CELLS);
                case HEAVY:
                    return Math.floorMod(cell + byHeavy, CELLS);
                default:
                    return cell;
            }
        }

        boolean allAfter(int byPlain, int byHeavy) {
            for (int b = 0; b < bits; b++) {
                if (afterCell[b] != NOTHING
                        && cellMoved(b, toldCell[b], byPlain, byHeavy) != afterCell[b]) {
                    return false;
                }
            }
            return true;
        }

        boolean movesNone(int byPlain, int byHeavy) {
            for (int b = 0; b < bits; b++) {
                if (cellMoved(b, 0, byPlain, byHeavy) != 0) {
                    return false;
                }
            }
            return true;
        }
    }

    /** How all lies now, and what can be seen of it. */
    private static final class Scene {
        // One array holds all that acts change, so that it is kept and brought back in one copy.
        static final int SPOT = MAX_BITS;
        static final int STEPS = SPOT + MAX_PEOPLE;
        static final int DAY = STEPS + MAX_PEOPLE;
        static final int PARTS = DAY + 1;

        // It has no bits until a text is told: no TUBE.
        Plan plan = new Plan();
        final int[] now = new int[PARTS];

        /** Lays all as told; answers the plan that is needed no more. */
        Plan begin(Plan told) {
            Plan old = plan;
            plan = told;
            for (int b = 0; b < MAX_BITS; b++) {
                now[b] = b < told.bits ? told.toldCell[b] : 0;
            }
            for (int p = 0; p < MAX_PEOPLE; p++) {
                now[SPOT + p] = p < told.people ? told.personSpot[p] : 0;
                now[STEPS + p] = 0;
            }
            now[DAY] = 0;
            return old;
        }

        int day() {
            return now[DAY];
        }

        int spotOf(int p) {
            return now[SPOT + p];
        }

        int stepsOf(int p) {
            return now[STEPS + p];
        }

        void passDays(int days) {
            now[DAY] += days;
        }

        void turnAll(int clicks) {
            for (int b = 0; b < plan.bits; b++) {
                now[b] = cellBehind(b, clicks, half(clicks));
            }
        }

        int stepPerson(int p, boolean up) {
            int spot = spotBeside(spotOf(p), up);
            int length = stepInto(spot);
            now[SPOT + p] = spot;
            now[STEPS + p] += length;
            return length;
        }

        int cellBehind(int b, int byPlain, int byHeavy) {
            return plan.cellMoved(b, now[b], byPlain, byHeavy);
        }

        int topIn(int cell, int byPlain, int byHeavy) {
            int top = NOTHING;
            int heaviest = NONE;
            for (int b = 0; b < plan.bits; b++) {
                if (plan.sort[b] > heaviest && plan.cellMoved(b, now[b], byPlain, byHeavy) == cell) {
                    top = b;
                    heaviest = plan.sort[b];
                }
            }
            return top;
        }

        boolean isTop(int b, int byPlain, int byHeavy) {
            return topIn(cellBehind(b, byPlain, byHeavy), byPlain, byHeavy) == b;
        }

        // Each cell that holds a bit has just one on TOP.
        int topCount(int byPlain, int byHeavy) {
            return Integer.bitCount(heldCells(byPlain, byHeavy));
        }

        int heldCells(int byPlain, int byHeavy) {
            int cells = 0;
            for (int b = 0; b < plan.bits; b++) {
                cells |= 1 << plan.cellMoved(b, now[b], byPlain, byHeavy);
            }
            return cells;
        }

        int bitsIn(int cell) {
            int found = 0;
            for (int b = 0; b < plan.bits; b++) {
                if (cellBehind(b, 0, 0) == cell) {
                    found |= asBit(b);
                }
            }
            return found;
        }

        int bitsUnder() {
            int found = 0;
            for (int b = 0; b < plan.bits; b++) {
                if (!isTop(b, 0, 0)) {
                    found |= asBit(b);
                }
            }
            return found;
        }

        int rightBits(int byPlain, int byHeavy) {
            int found = 0;
            for (int b = 0; b < plan.bits; b++) {
                if (cellBehind(b, byPlain, byHeavy) == plan.wantCell[b]) {
                    found |= asBit(b);
                }
            }
            return found;
        }

        boolean allRight(int byPlain, int byHeavy) {
            for (int b = 0; b < plan.bits; b++) {
                if (plan.wantCell[b] != NOTHING && cellBehind(b, byPlain, byHeavy) != plan.wantCell[b]) {
                    return false;
                }
            }
            return true;
        }

        // Single steps of a plain and of a heavy bit can be turned; a light one goes by twos.
        boolean canLie(int b, int cell) {
            int off = cell - now[b];
            if (plan.sort[b] == GLUED) {
                return off == 0;
            }
            return plan.sort[b] != LIGHT || off % 2 == 0;
        }

        int shownAt(int country, int cell) {
            return topIn(tubeCell(country, cell), 0, 0);
        }

        // No WORD has the number 0, so it can stand for the colour of nothing.
        long colourAt(int country, int cell) {
            int b = topIn(tubeCell(country, cell), 0, 0);
            return b < 0 ? 0 : plan.colour[b];
        }

        int firstNotMet(int country) {
            for (int m = 0; m < plan.mets; m++) {
                if (colourAt(country, plan.metCell[m]) != plan.metColour[m]) {
                    return m;
                }
            }
            return NOTHING;
        }

        int countriesMet() {
            int found = 0;
            for (int country = 0; country < COUNTRIES; country++) {
                if (firstNotMet(country) == NOTHING) {
                    found |= asBit(country);
                }
            }
            return found;
        }

        int bestLook(int countries) {
            int best = NOTHING;
            int fewest = COUNTRIES + 1;
            for (int cell = 0; countries != 0 && cell < CELLS; cell++) {
                int left = mostLeft(countries, cell);
                if (left < fewest) {
                    fewest = left;
                    best = cell;
                }
            }
            return best;
        }

        int mostLeft(int countries, int cell) {
            int most = 0;
            for (int country = 0; country < COUNTRIES; country++) {
                if ((countries & asBit(country)) != 0) {
                    most = Math.max(most, lookingLike(countries, cell, colourAt(country, cell)));
                }
            }
            return most;
        }

        int lookingLike(int countries, int cell, long colour) {
            int count = 0;
            for (int country = 0; country < COUNTRIES; country++) {
                if ((countries & asBit(country)) != 0 && colourAt(country, cell) == colour) {
                    count++;
                }
            }
            return count;
        }

        // As many cells as there are bits are always enough: those in which they lie.
        int fewestWatchers(int reach) {
            int held = heldCells(0, 0);
            int best = held;
            for (int cells = 1; cells < 1 << CELLS; cells++) {
                int more = Integer.bitCount(cells) - Integer.bitCount(best);
                if ((more < 0 || more == 0 && cells < best) && (held & ~widened(cells, reach)) == 0) {
                    best = cells;
                }
            }
            return best;
        }

        int widened(int cells, int reach) {
            int wide = cells;
            for (int off = 1; off <= reach; off++) {
                wide |= cells << off | cells >> (CELLS - off) | cells >> off | cells << (CELLS - off);
            }
            return wide & ((1 << CELLS) - 1);
        }

        int stepInto(int spot) {
            int b = topIn(tubeCell(countryAt(spot), cellAt(spot)), 0, 0);
            return b < 0 ? 1 : 1 + plan.weight(b);
        }

        int lengthTo(int from, int to, boolean up) {
            int length = 0;
            int spot = from;
            for (int steps = 0; steps < SPOTS && spot != to; steps++) {
                spot = spotBeside(spot, up);
                length += stepInto(spot);
            }
            return length;
        }

        int wayLength(int from, int to) {
            return Math.min(lengthTo(from, to, true), lengthTo(from, to, false));
        }

        boolean goesUp(int from, int to) {
            return from != to && lengthTo(from, to, true) <= lengthTo(from, to, false);
        }

        int nearestLength(int from, int b) {
            if (!isTop(b, 0, 0)) {
                return NOTHING;
            }
            int least = NOTHING;
            for (int country = 0; country < COUNTRIES; country++) {
                int cell = mirroredCell(country, cellBehind(b, 0, 0));
                int length = wayLength(from, spotAt(country, cell));
                if (least == NOTHING || length < least) {
                    least = length;
                }
            }
            return least;
        }

        int farthestCountry(int from) {
            int best = 0;
            int longest = -1;
            for (int country = 0; country < COUNTRIES; country++) {
                int length = wayLength(from, spotAt(country, 0));
                if (length > longest) {
                    longest = length;
                    best = country;
                }
            }
            return best;
        }
    }

    /** What acts can be undone to, and the images. */
    private static final class Memory {
        static final int MOST_ACTS = 16;
        static final int MOST_IMAGES = 3;

        final int[][] actParts = new int[MOST_ACTS][Scene.PARTS];
        final int[][] imageParts = new int[MOST_IMAGES][Scene.PARTS];
        int acts;
        int nextAct;
        int images;

        void forget() {
            acts = 0;
            nextAct = 0;
            images = 0;
        }

        // The rows go round, so that the 17th act takes the place of the oldest.
        void keepAct(int[] now) {
            System.arraycopy(now, 0, actParts[nextAct], 0, Scene.PARTS);
            nextAct = (nextAct + 1) % MOST_ACTS;
            acts = Math.min(acts + 1, MOST_ACTS);
        }

        boolean undoInto(int[] now) {
            if (acts == 0) {
                return false;
            }
            acts--;
            nextAct = (nextAct + MOST_ACTS - 1) % MOST_ACTS;
            System.arraycopy(actParts[nextAct], 0, now, 0, Scene.PARTS);
            return true;
        }

        int keepImage(int[] now) {
            if (images >= MOST_IMAGES) {
                return NONE;
            }
            System.arraycopy(now, 0, imageParts[images], 0, Scene.PARTS);
            images++;
            return images - 1;
        }

        boolean backInto(int image, int[] now) {
            if (image < 0 || image >= images) {
                return false;
            }
            System.arraycopy(imageParts[image], 0, now, 0, Scene.PARTS);
            acts = 0;
            return true;
        }
    }

    /**
     * Rows of TURNS by hand, counted by how far they bring plain and heavy bits round the ring:
     * these counts are the same for every tube, so they are made once, and a call only sets a goal.
     */
    private static final class Rows {
        static final int SHIFTS = CELLS * CELLS;

        final int[][] count = new int[LONGEST_WANTED + 1][SHIFTS];
        final boolean[] goal = new boolean[SHIFTS];

        Rows() {
            count[0][0] = 1;
            for (int turns = 1; turns <= LONGEST_WANTED; turns++) {
                for (int shift = 0; shift < SHIFTS; shift++) {
                    for (int clicks = -HAND_CLICKS; clicks <= HAND_CLICKS; clicks++) {
                        if (clicks != 0) {
                            int to = shiftOf(shift / CELLS + clicks, shift % CELLS + half(clicks));
                            count[turns][to] += count[turns - 1][shift];
                        }
                    }
                }
            }
        }

        static int shiftOf(int byPlain, int byHeavy) {
            return Math.floorMod(byPlain, CELLS) * CELLS + Math.floorMod(byHeavy, CELLS);
        }

        void aim(int byPlain, int byHeavy, boolean good) {
            goal[shiftOf(byPlain, byHeavy)] = good;
        }

        int rowsToGoal(int turns, int byPlain, int byHeavy) {
            if (turns < 0 || turns > LONGEST_WANTED) {
                return 0;
            }
            int sum = 0;
            for (int shift = 0; shift < SHIFTS; shift++) {
                if (count[turns][shift] > 0
                        && goal[shiftOf(byPlain + shift / CELLS, byHeavy + shift % CELLS)]) {
                    sum += count[turns][shift];
                }
            }
            return sum;
        }

        int fewestTurns(int most) {
            for (int turns = 0; turns <= most; turns++) {
                if (rowsToGoal(turns, 0, 0) > 0) {
                    return turns;
                }
            }
            return NOTHING;
        }

        // The counts tell behind which first TURN the row lies, so no row before it is written out.
        int rowAt(int turns, int index) {
            int byPlain = 0;
            int byHeavy = 0;
            int ahead = index;
            int digits = 0;
            for (int left = turns - 1; left >= 0; left--) {
                int clicks = -HAND_CLICKS;
                while (clicks < HAND_CLICKS) {
                    int among = clicks == 0 ? 0 : rowsToGoal(left, byPlain + clicks, byHeavy + half(clicks));
                    if (ahead < among) {
                        break;
                    }
                    ahead -= among;
                    clicks++;
                }
                byPlain += clicks;
                byHeavy += half(clicks);
                digits = 10 * digits + clicks + HAND_CLICKS;
            }
            return digits;
        }
    }

    /** Days on which a tube is shaken; what it holds is only told how far that brings it. */
    private static final class Shakes {
        int seed;
        int day;
        int byPlain;
        int byHeavy;

        void begin(int firstSeed, int firstDay) {
            seed = firstSeed;
            day = firstDay;
            byPlain = 0;
            byHeavy = 0;
        }

        void passDay(Plan plan) {
            if (!plan.isHoliday(day)) {
                seed = (75 * seed + 74) % SEED_RING;
                int clicks = seed % 7 - 3;
                byPlain += clicks;
                byHeavy += half(clicks);
            }
            day++;
        }
    }

    /** THE TAPE, parted into TOKENS that are taken one by one from the left. */
    private static final class Tape {
        static final int END = 0;
        static final int WORD = 1;
        static final int WHOLE = 2;
        static final int SEMICOLON = 3;
        static final int NO_TOKEN = 4;

        static final int LONGEST_WORD = 8;
        static final int LONGEST_WHOLE = 3;

        // Words as the numbers of their letters' bytes: eight of them fit a long.
        static final long TUBE = 0x74756265L;
        static final long BIT = 0x626974L;
        static final long WANT = 0x77616e74L;
        static final long AFTER = 0x6166746572L;
        static final long MET = 0x6d6574L;
        static final long HOLIDAY = 0x686f6c69646179L;
        static final long PERSON = 0x706572736f6eL;
        static final long ROLLS = 0x726f6c6c73L;
        static final long LIGHT = 0x6c69676874L;
        static final long PLAIN = 0x706c61696eL;
        static final long HEAVY = 0x6865617679L;
        static final long GLUED = 0x676c756564L;
        static final long AT = 0x6174L;
        static final long IN = 0x696eL;

        final byte[] text = new byte[TAPE_ROOM];
        int length;
        int end;
        int at;
        int kind;
        int place;
        long word;
        int whole;

        void put(int number) {
            for (int shift = 24; shift >= 0; shift -= 8) {
                if (length < TAPE_ROOM) {
                    text[length] = (byte) (number >>> shift);
                    length++;
                }
            }
        }

        void startOver(int bytes) {
            end = Math.min(bytes, length);
            at = 0;
        }

        // A run of like signs is taken whole: one that is too long is no TOKEN at all.
        void next() {
            while (at < end && text[at] == ' ') {
                at++;
            }
            place = at;
            word = 0;
            whole = 0;
            kind = at < end ? kindOf(text[at]) : END;
            boolean goesOn = kind != END;
            while (goesOn && at < end) {
                word = word << 8 | text[at];
                whole = 10 * whole + text[at] - '0';
                at++;
                goesOn = (kind == WORD || kind == WHOLE) && at < end && kindOf(text[at]) == kind;
            }
            if (kind == WORD && at - place > LONGEST_WORD || kind == WHOLE && at - place > LONGEST_WHOLE) {
                kind = NO_TOKEN;
            }
        }

        static int kindOf(int sign) {
            if (sign >= 'a' && sign <= 'z') {
                return WORD;
            }
            if (sign >= '0' && sign <= '9') {
                return WHOLE;
            }
            return sign == ';' ? SEMICOLON : NO_TOKEN;
        }

        boolean isWord(long spelled) {
            return kind == WORD && word == spelled;
        }
    }

    /** Reads a text into a plan, up to its first FAULT. */
    private static final class Reader {
        final Tape tape = new Tape();
        // A text with a FAULT must leave the TUBE alone, so it is read into a plan of its own.
        Plan draft = new Plan();
        boolean hasTube;
        int fault;
        int faultPlace;

        boolean reads(int bytes) {
            tape.startOver(bytes);
            draft.clear();
            hasTube = false;
            fault = 0;
            // Each line has a byte of its own at least, so there are no more lines than bytes.
            for (int lines = 0; lines <= TAPE_ROOM; lines++) {
                if (!readsLine()) {
                    return false;
                }
                tape.next();
                if (tape.kind == Tape.END) {
                    return draft.bits > 0 || fails(LACKS);
                }
                if (tape.kind != Tape.SEMICOLON) {
                    return fails(FORM);
                }
            }
            return fails(FORM);
        }

        boolean fails(int number) {
            fault = number;
            faultPlace = tape.place;
            return false;
        }

        boolean readsLine() {
            tape.next();
            if (tape.kind != Tape.WORD || !startsLine()) {
                return fails(FORM);
            }
            if (tape.isWord(Tape.TUBE)) {
                return readsTube();
            }
            if (!hasTube) {
                return fails(LACKS);
            }
            if (tape.isWord(Tape.BIT)) {
                return readsBit();
            }
            if (tape.isWord(Tape.WANT)) {
                return readsCellOfBit(draft.wantCell);
            }
            if (tape.isWord(Tape.AFTER)) {
                return readsCellOfBit(draft.afterCell);
            }
            if (tape.isWord(Tape.MET)) {
                return readsMet();
            }
            return tape.isWord(Tape.HOLIDAY) ? readsHoliday() : readsPerson();
        }

        // The words that start lines are just those that are no NAMES.
        boolean startsLine() {
            return tape.isWord(Tape.TUBE) || tape.isWord(Tape.BIT) || tape.isWord(Tape.WANT)
                    || tape.isWord(Tape.AFTER) || tape.isWord(Tape.MET) || tape.isWord(Tape.HOLIDAY)
                    || tape.isWord(Tape.PERSON);
        }

        boolean readsTube() {
            if (hasTube) {
                return fails(AGAIN);
            }
            hasTube = true;
            if (!readsWord(Tape.ROLLS) || !readsWhole(HUNDRED)) {
                return false;
            }
            draft.chance = tape.whole;
            return true;
        }

        boolean readsBit() {
            if (draft.bits >= MAX_BITS) {
                return fails(MANY);
            }
            if (!readsNewName()) {
                return false;
            }
            long name = tape.word;
            tape.next();
            int sort = sortTold();
            if (sort == NONE) {
                return fails(FORM);
            }
            if (!readsAnyWord()) {
                return false;
            }
            long colour = tape.word;
            if (!readsWord(Tape.AT) || !readsWhole(LAST_CELL)) {
                return false;
            }
            draft.addBit(name, sort, colour, tape.whole);
            return true;
        }

        int sortTold() {
            if (tape.isWord(Tape.LIGHT)) {
                return LIGHT;
            }
            if (tape.isWord(Tape.PLAIN)) {
                return PLAIN;
            }
            if (tape.isWord(Tape.HEAVY)) {
                return HEAVY;
            }
            return tape.isWord(Tape.GLUED) ? GLUED : NONE;
        }

        /** Reads a bit and the cell that these are to hold for it. */
        boolean readsCellOfBit(int[] cells) {
            int b = readsOldBit(cells);
            if (b == NONE || !readsWord(Tape.AT) || !readsWhole(LAST_CELL)) {
                return false;
            }
            cells[b] = tape.whole;
            return true;
        }

        boolean readsMet() {
            if (draft.mets >= MAX_METS) {
                return fails(MANY);
            }
            if (!readsWhole(LAST_CELL)) {
                return false;
            }
            int cell = tape.whole;
            if (draft.hasMet(cell)) {
                return fails(AGAIN);
            }
            if (!readsAnyWord()) {
                return false;
            }
            draft.addMet(cell, tape.word);
            return true;
        }

        boolean readsHoliday() {
            if (draft.holidays >= MAX_HOLIDAYS) {
                return fails(MANY);
            }
            if (!readsWhole(LAST_HOLIDAY)) {
                return false;
            }
            if (draft.isHoliday(tape.whole)) {
                return fails(AGAIN);
            }
            draft.addHoliday(tape.whole);
            return true;
        }

        boolean readsPerson() {
            if (draft.people >= MAX_PEOPLE) {
                return fails(MANY);
            }
            if (!readsNewName()) {
                return false;
            }
            long name = tape.word;
            if (!readsWord(Tape.IN) || !readsWhole(COUNTRIES - 1)) {
                return false;
            }
            int country = tape.whole;
            if (!readsWord(Tape.AT) || !readsWhole(LAST_CELL)) {
                return false;
            }
            draft.addPerson(name, spotAt(country, tape.whole));
            return true;
        }

        boolean readsWord(long spelled) {
            tape.next();
            return tape.isWord(spelled) || fails(FORM);
        }

        boolean readsAnyWord() {
            tape.next();
            return tape.kind == Tape.WORD || fails(FORM);
        }

        boolean readsWhole(int last) {
            tape.next();
            if (tape.kind != Tape.WHOLE) {
                return fails(FORM);
            }
            return tape.whole <= last || fails(BOUNDS);
        }

        boolean readsNewName() {
            tape.next();
            if (tape.kind != Tape.WORD || startsLine()) {
                return fails(FORM);
            }
            return !draft.isNamed(tape.word) || fails(AGAIN);
        }

        /** The bit whose NAME comes next, if it has no cell told in these yet; NONE behind a FAULT. */
        int readsOldBit(int[] cells) {
            tape.next();
            if (tape.kind != Tape.WORD || startsLine()) {
                fails(FORM);
                return NONE;
            }
            int b = draft.bitNamed(tape.word);
            if (b == NONE) {
                fails(UNTOLD);
                return NONE;
            }
            if (b >= cells.length || cells[b] != NOTHING) {
                fails(AGAIN);
                return NONE;
            }
            return b;
        }
    }
}
