import java.util.NoSuchElementException;

/** A cooper's yard, from the oak log to the blended spirit; see README.md. */
public final class Staveyard {
    private static final int MOST_LOGS = 10;
    private static final int MOST_STAVES = 80;
    private static final int MOST_CASKS = 12;
    private static final int MOST_HEADS = 40;
    private static final int CLEFTS = 8;
    private static final int LAYERS = 6;
    private static final int FEWEST_IN_RING = 8;
    private static final int MOST_IN_RING = 24;
    private static final int MOST_ANEW = 14;
    private static final int LEAST_BILGE = 320;
    private static final int MOST_BILGE = 3000;
    private static final int LEAST_KEPT = 20;
    private static final int LEAST_WIDTH = 40;
    private static final int WIDEST = 133;
    private static final int SEASONED = 250;
    private static final int WETTEST = 900;
    private static final int CHAR_FROM = 40;
    private static final int UPPER = 0;
    private static final int BILGE = 1;
    private static final int LOWER = 2;
    private static final int HEIGHTS = 3;
    private static final int ENDS = 2;
    private static final int HOOPS = 6;
    private static final int MOST_EVENTS = 20;

    private final Log[] logs = new Log[MOST_LOGS];
    private int logCount;
    private final Stave[] staves;
    private int staveCount;
    private final Stack stack;
    private final Chooser chooser = new Chooser();
    private final Cask[] casks = new Cask[MOST_CASKS];
    private int caskCount;
    private final int[] headDiameters = new int[MOST_HEADS];
    private final boolean[] headUsed = new boolean[MOST_HEADS];
    private int headCount;
    private int jig;
    private final Fire fire = new Fire();
    private final Air air = new Air();
    private final Air checkingAir = new Air();
    private final Vat vat = new Vat();
    private final Ledger ledger = new Ledger();
    private final int[] seen = new int[MOST_STAVES];

    public Staveyard() {
        for (int number = 0; number < MOST_LOGS; number++) {
            logs[number] = new Log();
        }
        Stave[] blanks = new Stave[MOST_STAVES];
        for (int number = 0; number < MOST_STAVES; number++) {
            blanks[number] = new Stave();
        }
        for (int number = 0; number < MOST_CASKS; number++) {
            casks[number] = new Cask(blanks);
        }
        stack = new Stack(blanks);
        staves = blanks;
    }

    // ---- logs and the stack

    public int addLog(int region, int radius, int length) throws IllegalArgumentException, IllegalStateException {
        requireWithin(region, 0, 3);
        requireWithin(radius, 12, 60);
        requireWithin(length, 6, 12);
        if (logCount >= MOST_LOGS) {
            throw new IllegalStateException("there are as many logs as can be");
        }
        logs[logCount].lay(region, radius, length);
        logCount++;
        return logCount - 1;
    }

    public boolean knot(int log, int cleft) throws IndexOutOfBoundsException, IllegalArgumentException, UnsupportedOperationException {
        Log wood = logNumbered(log);
        requireWithin(cleft, 0, CLEFTS - 1);
        if (wood.wasSplit) {
            throw new UnsupportedOperationException("the log was split");
        }
        boolean wasClear = !wood.hasKnot(cleft);
        wood.knots |= 1 << cleft;
        return wasClear;
    }

    public int split(int log) throws IndexOutOfBoundsException, UnsupportedOperationException, IllegalStateException {
        Log wood = logNumbered(log);
        if (wood.wasSplit) {
            throw new UnsupportedOperationException("the log was split");
        }
        int count = 0;
        for (int cleft = 0; cleft < CLEFTS; cleft++) {
            count += wood.stavesOf(cleft);
        }
        if (staveCount + count > MOST_STAVES) {
            throw new IllegalStateException("there would be too many staves");
        }
        for (int cleft = 0; cleft < CLEFTS; cleft++) {
            cleave(log, wood, cleft);
        }
        wood.wasSplit = true;
        return count;
    }

    public int staves() {
        return staveCount;
    }

    public int stave(int stave, char what) throws IndexOutOfBoundsException, IllegalArgumentException {
        Stave wood = staveNumbered(stave);
        if (what == 'w') {
            return wood.width;
        }
        if (what == 'm') {
            return wood.moisture;
        }
        if (what == 't') {
            return wood.tannin;
        }
        if (what == 'l') {
            return wood.length;
        }
        if (what == 'r') {
            return wood.region;
        }
        if (what == 'g') {
            return wood.log;
        }
        throw new IllegalArgumentException("a stave has no such thing");
    }

    public char isWhere(int stave) throws IndexOutOfBoundsException {
        return staveNumbered(stave).where;
    }

    public int stacked() {
        return stack.count;
    }

    public int inStack(int index) throws NoSuchElementException {
        if (index < 0 || index >= stack.count) {
            throw new NoSuchElementException("the stack has none so low");
        }
        return stack.fromTop(index);
    }

    public int turnStack() {
        stack.turn();
        return stack.count;
    }

    public int month(int dry, int rain) throws IllegalArgumentException {
        requireWithin(dry, 0, 80);
        requireWithin(rain, 0, 60);
        stack.weather(dry, rain);
        for (int number = 0; number < caskCount; number++) {
            if (casks[number].volume == 0) {
                casks[number].loosenHoops();
            }
        }
        return stack.countSeasoned();
    }

    // ---- raising

    public int setJig(int error) throws IllegalArgumentException {
        requireWithin(error, 0, 3);
        int before = jig;
        jig = error;
        return before;
    }

    public int leastSum(int sum, int length) throws IllegalArgumentException, NoSuchElementException {
        requireWithin(sum, LEAST_BILGE, MOST_BILGE);
        requireChoice(sum, length);
        return chooser.chosenSum;
    }

    public int leastSumAnew(int sum, int length) throws IllegalArgumentException, NoSuchElementException, UnsupportedOperationException {
        requireWithin(sum, LEAST_BILGE, MOST_BILGE);
        requireChoice(sum, length);
        if (chooser.candidates > MOST_ANEW) {
            throw new UnsupportedOperationException("too many staves could be chosen");
        }
        return chooser.leastByTrying(sum);
    }

    public int raise(int bilge, int upper, int lower, int length) throws IllegalArgumentException, IllegalStateException, NoSuchElementException, UnsupportedOperationException {
        requireWithin(bilge, LEAST_BILGE, MOST_BILGE);
        requireWithin(upper, bilge - bilge / 2, bilge - 1);
        requireWithin(lower, bilge - bilge / 2, bilge - 1);
        if (caskCount >= MOST_CASKS) {
            throw new IllegalStateException("there are as many casks as can be");
        }
        requireChoice(bilge, length);
        Stave last = staves[chooser.lastChosen()];
        int kept = last.width - (chooser.chosenSum - bilge);
        if (kept < LEAST_KEPT) {
            throw new UnsupportedOperationException("the last stave would become too narrow");
        }
        last.width = kept;
        for (int rank = 0; rank < chooser.chosenCount; rank++) {
            bringIn(chooser.chosen[rank], true);
        }
        Cask cask = casks[caskCount];
        cask.length = length;
        cask.sums[UPPER] = upper;
        cask.sums[BILGE] = bilge;
        cask.sums[LOWER] = lower;
        cask.setUp(chooser.chosen, chooser.chosenCount);
        caskCount++;
        return caskCount - 1;
    }

    public int size(int cask) throws IndexOutOfBoundsException {
        return caskNumbered(cask).size;
    }

    public int at(int cask, int place) throws IndexOutOfBoundsException, NoSuchElementException {
        Cask made = caskNumbered(cask);
        requirePlace(made, place);
        return made.ring[place];
    }

    public int width(int cask, int place, int height) throws IndexOutOfBoundsException, NoSuchElementException, IllegalArgumentException {
        Cask made = caskNumbered(cask);
        requirePlace(made, place);
        requireWithin(height, UPPER, LOWER);
        return made.madeWidth(place, height);
    }

    public int closing(int cask, int height) throws IndexOutOfBoundsException, IllegalArgumentException {
        Cask made = caskNumbered(cask);
        requireWithin(height, UPPER, LOWER);
        int missing = 10 * made.sums[height];
        for (int place = 0; place < made.size; place++) {
            missing -= made.madeWidth(place, height);
        }
        return missing;
    }

    // ---- bending, toasting, heads

    public int bend(int cask, int fire, int steam) throws IndexOutOfBoundsException, IllegalArgumentException, UnsupportedOperationException {
        Cask made = caskNumbered(cask);
        requireWithin(fire, 0, 60);
        requireWithin(steam, 0, 60);
        if (made.isBent) {
            throw new UnsupportedOperationException("the cask was bent");
        }
        made.isBent = true;
        made.note('b');
        return made.bendStaves(fire, steam);
    }

    public boolean isCracked(int cask, int place) throws IndexOutOfBoundsException, NoSuchElementException {
        Cask made = caskNumbered(cask);
        requirePlace(made, place);
        return made.staveIn(place).isBroken;
    }

    public int toast(int cask, int heat, int minutes) throws IndexOutOfBoundsException, IllegalArgumentException, UnsupportedOperationException, IllegalStateException {
        Cask made = caskNumbered(cask);
        requireWithin(heat, 100, 400);
        requireWithin(minutes, 1, 60);
        requireBent(made);
        requireEmpty(made);
        fire.burn(heat, minutes);
        for (int place = 0; place < made.size; place++) {
            made.staveIn(place).brown(fire.gains);
        }
        made.note('t');
        return made.countChar();
    }

    public int toastAt(int cask, int place, int layer) throws IndexOutOfBoundsException, NoSuchElementException, IllegalArgumentException {
        Cask made = caskNumbered(cask);
        requirePlace(made, place);
        requireWithin(layer, 0, LAYERS - 1);
        return made.staveIn(place).toasts[layer];
    }

    public int shave(int cask, int layers) throws IndexOutOfBoundsException, IllegalArgumentException, IllegalStateException {
        Cask made = caskNumbered(cask);
        requireWithin(layers, 1, 3);
        requireEmpty(made);
        for (int place = 0; place < made.size; place++) {
            made.staveIn(place).thin(layers);
        }
        made.note('s');
        return made.countChar();
    }

    public int groove(int cask, int end, int depth) throws IndexOutOfBoundsException, IllegalArgumentException, UnsupportedOperationException, IllegalStateException {
        Cask made = caskNumbered(cask);
        requireWithin(end, 0, ENDS - 1);
        requireWithin(depth, 3, 8);
        requireBent(made);
        requireEmpty(made);
        if (made.grooves[end] >= depth) {
            throw new IllegalStateException("there is a groove as deep or deeper");
        }
        made.grooves[end] = depth;
        made.hasHead[end] = false;
        made.note('g');
        return made.grooveDiameter(end);
    }

    public int cutHead(int diameter) throws IllegalArgumentException, IllegalStateException {
        requireWithin(diameter, 50, 1000);
        if (headCount >= MOST_HEADS) {
            throw new IllegalStateException("there are as many heads as can be");
        }
        headDiameters[headCount] = diameter;
        headCount++;
        return headCount - 1;
    }

    public boolean fit(int cask, int end, int head) throws IndexOutOfBoundsException, IllegalArgumentException, UnsupportedOperationException {
        Cask made = caskNumbered(cask);
        requireWithin(end, 0, ENDS - 1);
        requireWithin(head, 0, headCount - 1);
        if (made.grooves[end] == 0 || made.hasHead[end] || headUsed[head]) {
            throw new UnsupportedOperationException("there is no free groove, or the head is used");
        }
        if (headDiameters[head] != made.grooveDiameter(end)) {
            return false;
        }
        headUsed[head] = true;
        made.hasHead[end] = true;
        made.note('h');
        return true;
    }

    // ---- hoops and leaks

    public int drive(int cask, int hoop, int blows) throws IndexOutOfBoundsException, IllegalArgumentException, UnsupportedOperationException {
        Cask made = caskNumbered(cask);
        requireWithin(hoop, 0, HOOPS - 1);
        requireWithin(blows, 1, 20);
        requireBent(made);
        for (int blow = 0; blow < blows; blow++) {
            made.strike(hoop);
        }
        return made.hoops[hoop];
    }

    public int tightness(int cask, int hoop) throws IndexOutOfBoundsException, IllegalArgumentException {
        Cask made = caskNumbered(cask);
        requireWithin(hoop, 0, HOOPS - 1);
        return made.hoops[hoop];
    }

    public boolean leaks(int cask, int joint, int height) throws IndexOutOfBoundsException, NoSuchElementException, IllegalArgumentException {
        Cask made = caskNumbered(cask);
        requirePlace(made, joint);
        requireWithin(height, UPPER, LOWER);
        return made.seepsAt(joint, height);
    }

    public boolean tryAir(int cask, int from, int to) throws IndexOutOfBoundsException, IllegalArgumentException {
        Cask made = caskNumbered(cask);
        if (from < 0 || to > made.size || from >= to) {
            throw new IllegalArgumentException("no such range of joints");
        }
        return air.blow(made, from, to);
    }

    public int findLeak(int cask) throws IndexOutOfBoundsException, NoSuchElementException {
        int joint = air.firstLeak(caskNumbered(cask));
        if (joint < 0) {
            throw new NoSuchElementException("no joint leaks");
        }
        return joint;
    }

    public int tries() {
        return air.blown;
    }

    public boolean isWhole(int cask) throws IndexOutOfBoundsException {
        return caskNumbered(cask).holds();
    }

    // ---- contents

    public int content(int cask) throws IndexOutOfBoundsException {
        return caskNumbered(cask).trueContent();
    }

    public int contentBy(int cask, char land) throws IndexOutOfBoundsException, IllegalArgumentException {
        Cask made = caskNumbered(cask);
        if (land != 'e' && land != 'g' && land != 'f') {
            throw new IllegalArgumentException("no such land");
        }
        return made.formulaContent(land);
    }

    public char closest(int cask) throws IndexOutOfBoundsException {
        Cask made = caskNumbered(cask);
        char nearest = 'e';
        if (made.formulaError('g') < made.formulaError(nearest)) {
            nearest = 'g';
        }
        if (made.formulaError('f') < made.formulaError(nearest)) {
            nearest = 'f';
        }
        return nearest;
    }

    public int fill(int cask) throws IndexOutOfBoundsException, UnsupportedOperationException {
        Cask made = caskNumbered(cask);
        if (made.volume > 0 || !made.holds()) {
            throw new UnsupportedOperationException("the cask is not whole, or not empty");
        }
        made.volume = made.trueContent();
        made.uses++;
        made.note('f');
        ledger.filled += made.volume;
        return made.volume;
    }

    public int keep(int cask, int months, int floor) throws IndexOutOfBoundsException, IllegalArgumentException, UnsupportedOperationException {
        Cask made = caskNumbered(cask);
        requireWithin(months, 1, 120);
        requireWithin(floor, 0, 4);
        if (made.volume == 0) {
            throw new UnsupportedOperationException("the cask is empty");
        }
        for (int month = 0; month < months && made.volume > 0; month++) {
            ledger.lost += made.ageOneMonth(floor);
            ledger.monthsKept++;
        }
        return made.volume;
    }

    public int within(int cask, char what) throws IndexOutOfBoundsException, IllegalArgumentException {
        Cask made = caskNumbered(cask);
        if (what == 'v') {
            return made.volume;
        }
        if (what == 't') {
            return made.tannin;
        }
        if (what == 'm') {
            return made.months;
        }
        if (what == 'u') {
            return made.uses;
        }
        throw new IllegalArgumentException("a cask has no such thing within");
    }

    public int pour(int cask, int amount) throws IndexOutOfBoundsException, IllegalArgumentException, UnsupportedOperationException {
        Cask made = caskNumbered(cask);
        if (amount < 1) {
            throw new IllegalArgumentException("nothing would be poured");
        }
        if (made.volume < amount) {
            throw new UnsupportedOperationException("there is less in the cask");
        }
        vat.learnOf(made);
        vat.tannin += made.tapTannin(amount);
        vat.volume += amount;
        made.drain(amount);
        return vat.volume;
    }

    public int vat(char what) throws IllegalArgumentException {
        if (what == 'v') {
            return vat.volume;
        }
        if (what == 't') {
            return vat.tannin;
        }
        if (what == 'm') {
            return vat.leastMonths;
        }
        if (what == 'r') {
            return vat.regions;
        }
        if (what == 'f') {
            return vat.fires;
        }
        throw new IllegalArgumentException("the vat has no such thing");
    }

    public int statement() throws NoSuchElementException {
        if (vat.volume == 0) {
            throw new NoSuchElementException("the vat is empty");
        }
        return vat.leastMonths / 12;
    }

    public int emptyVat() {
        int there = vat.volume;
        ledger.carriedOff += there;
        vat.clear();
        return there;
    }

    public int taste(int cask) throws IndexOutOfBoundsException, ArithmeticException {
        Cask made = caskNumbered(cask);
        if (made.volume == 0) {
            throw new ArithmeticException("the cask is empty");
        }
        return 100 * made.tannin / made.volume;
    }

    // ---- repairs

    public int replace(int cask, int place, int stave) throws IndexOutOfBoundsException, NoSuchElementException, UnsupportedOperationException, IllegalStateException {
        Cask made = caskNumbered(cask);
        Stave fresh = staveNumbered(stave);
        requirePlace(made, place);
        Stave old = made.staveIn(place);
        if (fresh.where != 's' || fresh.length != made.length || fresh.width < old.width) {
            throw new UnsupportedOperationException("the stave can't stand in this place");
        }
        if (made.volume > 0 || !made.isBent) {
            throw new IllegalStateException("the cask is not empty, or was not bent");
        }
        fresh.width = old.width;
        bringIn(stave, false);
        old.where = 'x';
        made.ring[place] = stave;
        made.note('x');
        return made.countOriginals();
    }

    public int originals(int cask) throws IndexOutOfBoundsException {
        return caskNumbered(cask).countOriginals();
    }

    public int events(int cask) throws IndexOutOfBoundsException {
        return caskNumbered(cask).noted;
    }

    public char event(int cask, int back) throws IndexOutOfBoundsException, NoSuchElementException {
        Cask made = caskNumbered(cask);
        if (back < 0 || back >= made.noted) {
            throw new NoSuchElementException("no event so far back");
        }
        return made.notes[made.noted - 1 - back];
    }

    public int woods(int cask) throws IndexOutOfBoundsException {
        return caskNumbered(cask).regionBits();
    }

    // ---- figures

    public long widths() {
        long sum = 0;
        for (int number = 0; number < staveCount; number++) {
            if (staves[number].where != 'x') {
                sum += staves[number].width;
            }
        }
        return sum;
    }

    public float seasonedShare() throws ArithmeticException {
        if (stack.count == 0) {
            throw new ArithmeticException("the stack is empty");
        }
        return (float) stack.countSeasoned() / (float) stack.count;
    }

    public double meanLoss() throws ArithmeticException {
        if (ledger.monthsKept == 0) {
            throw new ArithmeticException("no cask was ever kept");
        }
        return (double) ledger.lost / (double) ledger.monthsKept;
    }

    public boolean isSound() {
        boolean sound = eachStaveInOnePlace() && spiritAddsUp();
        for (int number = 0; number < caskCount; number++) {
            Cask made = casks[number];
            sound = sound && made.dueMakesSums() && made.bungAmongWidest()
                && checkingAir.firstLeak(made) == made.firstSeeping(0, made.size);
        }
        return sound;
    }

    private static void requireWithin(int number, int least, int most) {
        if (number < least || number > most) {
            throw new IllegalArgumentException("a number is out of range");
        }
    }

    private Log logNumbered(int number) {
        if (number < 0 || number >= logCount) {
            throw new IndexOutOfBoundsException("no such log");
        }
        return logs[number];
    }

    private Stave staveNumbered(int number) {
        if (number < 0 || number >= staveCount) {
            throw new IndexOutOfBoundsException("no such stave");
        }
        return staves[number];
    }

    private Cask caskNumbered(int number) {
        if (number < 0 || number >= caskCount) {
            throw new IndexOutOfBoundsException("no such cask");
        }
        return casks[number];
    }

    private static void requirePlace(Cask cask, int place) {
        if (place < 0 || place >= cask.size) {
            throw new NoSuchElementException("no such place in the ring");
        }
    }

    private static void requireBent(Cask cask) {
        if (!cask.isBent) {
            throw new UnsupportedOperationException("the cask was not bent");
        }
    }

    private static void requireEmpty(Cask cask) {
        if (cask.volume > 0) {
            throw new IllegalStateException("the cask is not empty");
        }
    }

    private void requireChoice(int sum, int length) {
        chooser.gather(staves, staveCount, length);
        if (!chooser.choose(sum)) {
            throw new NoSuchElementException("none can be chosen");
        }
    }

    private void cleave(int log, Log wood, int cleft) {
        int count = wood.stavesOf(cleft);
        for (int rank = 0; rank < count && staveCount < MOST_STAVES; rank++) {
            staves[staveCount].cut(log, wood, wood.blankWidth(cleft, rank));
            stack.put(staveCount);
            staveCount++;
        }
    }

    private void bringIn(int number, boolean isOriginal) {
        Stave stave = staves[number];
        stack.takeOut(number);
        stave.where = 'c';
        stave.error = jig;
        stave.isOriginal = isOriginal;
    }

    private boolean eachStaveInOnePlace() {
        for (int number = 0; number < MOST_STAVES; number++) {
            seen[number] = 0;
        }
        for (int index = 0; index < stack.count; index++) {
            seen[stack.numbers[index]]++;
        }
        boolean right = true;
        for (int number = 0; number < staveCount; number++) {
            right = right && seen[number] == (staves[number].where == 's' ? 1 : 0);
        }
        for (int number = 0; number < caskCount; number++) {
            casks[number].countRing(seen);
        }
        for (int number = 0; number < staveCount; number++) {
            right = right && seen[number] == (staves[number].where == 'x' ? 0 : 1);
        }
        return right;
    }

    private boolean spiritAddsUp() {
        long found = ledger.lost + ledger.carriedOff + vat.volume;
        for (int number = 0; number < caskCount; number++) {
            found += casks[number].volume;
        }
        return found == ledger.filled;
    }

    private static final class Log {
        int region;
        int radius;
        int length;
        int knots;
        boolean wasSplit;

        void lay(int itsRegion, int itsRadius, int itsLength) {
            region = itsRegion;
            radius = itsRadius;
            length = itsLength;
        }

        boolean hasKnot(int cleft) {
            return (knots >> cleft & 1) == 1;
        }

        /** Widths fall from the bark inward, so those wide enough come first. */
        int blankWidth(int cleft, int rank) {
            return 2 * (radius - 4 - 10 * rank) + 3 * cleft;
        }

        int stavesOf(int cleft) {
            int count = 0;
            for (int rank = 0; radius - 4 - 10 * rank >= 8; rank++) {
                if (!hasKnot(cleft) && blankWidth(cleft, rank) >= LEAST_WIDTH) {
                    count++;
                }
            }
            return count;
        }
    }

    private static final class Stave {
        int log;
        int region;
        int length;
        int width;
        int moisture;
        int tannin;
        char where;
        int error;
        boolean isBroken;
        boolean isOriginal;
        final int[] toasts = new int[LAYERS];

        void cut(int itsLog, Log wood, int itsWidth) {
            log = itsLog;
            region = wood.region;
            length = wood.length;
            width = itsWidth;
            moisture = 800;
            tannin = 300 + 100 * wood.region;
            where = 's';
        }

        boolean isSeasoned() {
            return moisture <= SEASONED;
        }

        void flex(int need, int minutesOfFire, int minutesOfSteam) {
            isBroken = moisture / 10 + 2 * minutesOfFire + 3 * minutesOfSteam < need;
            moisture = Math.max(50, moisture - 2 * minutesOfFire);
            moisture = Math.min(WETTEST, moisture + minutesOfSteam);
        }

        void brown(int[] gains) {
            for (int layer = 0; layer < LAYERS; layer++) {
                toasts[layer] += gains[layer];
            }
        }

        void thin(int taken) {
            for (int layer = 0; layer < LAYERS; layer++) {
                toasts[layer] = layer + taken < LAYERS ? toasts[layer + taken] : 0;
            }
        }

        /** The jig works on the ends alone. */
        int errorAt(int height) {
            return height == BILGE ? 0 : error;
        }

        boolean isCharred() {
            return toasts[0] >= CHAR_FROM;
        }

        int fireBit() {
            if (isCharred()) {
                return 1;
            }
            return toasts[0] >= 15 ? 2 : 4;
        }

        int give(int most) {
            int given = Math.min(tannin, isCharred() ? most + 2 : most);
            tannin -= given;
            return given;
        }
    }

    /** The stack by numbers, the topmost last. */
    private static final class Stack {
        private final Stave[] staves;
        final int[] numbers = new int[MOST_STAVES];
        int count;

        Stack(Stave[] itsStaves) {
            staves = itsStaves;
        }

        int fromTop(int index) {
            return numbers[count - 1 - index];
        }

        void put(int number) {
            if (count < MOST_STAVES) {
                numbers[count] = number;
                count++;
            }
        }

        void turn() {
            for (int low = 0; low < count / 2; low++) {
                int high = count - 1 - low;
                int number = numbers[low];
                numbers[low] = numbers[high];
                numbers[high] = number;
            }
        }

        void takeOut(int number) {
            int left = 0;
            for (int index = 0; index < count; index++) {
                if (numbers[index] != number) {
                    numbers[left] = numbers[index];
                    left++;
                }
            }
            count = left;
        }

        void weather(int dry, int rain) {
            for (int index = 0; index < count; index++) {
                Stave stave = staves[numbers[index]];
                stave.moisture = Math.max(100, stave.moisture - dry);
            }
            for (int index = 0; index < 3 && index < count; index++) {
                Stave stave = staves[fromTop(index)];
                stave.tannin = Math.max(0, stave.tannin - rain);
            }
            if (count > 0) {
                Stave top = staves[fromTop(0)];
                top.moisture = Math.min(WETTEST, top.moisture + rain);
            }
        }

        int countSeasoned() {
            int seasoned = 0;
            for (int index = 0; index < count; index++) {
                if (staves[numbers[index]].isSeasoned()) {
                    seasoned++;
                }
            }
            return seasoned;
        }
    }

    /**
     * Chooses staves by the sum of their widths. A row of bits, for the candidates from one on
     * and a count, says which sums so many of them make.
     */
    private static final class Chooser {
        private static final int BITS = 64;
        private static final int WORDS = 50;
        private static final int COUNTS = MOST_IN_RING + 1;
        private static final int NONE = 1000000;

        private final long[] sumBits = new long[(MOST_STAVES + 1) * COUNTS * WORDS];
        private final int[] numbers = new int[MOST_STAVES];
        private final int[] breadths = new int[MOST_STAVES];
        int candidates;
        final int[] chosen = new int[MOST_IN_RING];
        int chosenCount;
        int chosenSum;

        void gather(Stave[] staves, int staveCount, int length) {
            candidates = 0;
            for (int number = 0; number < staveCount; number++) {
                Stave stave = staves[number];
                if (stave.where == 's' && stave.isSeasoned() && stave.length == length) {
                    numbers[candidates] = number;
                    breadths[candidates] = stave.width;
                    candidates++;
                }
            }
        }

        boolean choose(int sum) {
            // The least set has the fewest staves that are allowed, or falls below the sum
            // without any one of its staves: no sum beyond this needs a look.
            int most = Math.max(sum + WIDEST - 1, FEWEST_IN_RING * WIDEST);
            int words = most / BITS + 1;
            fillRows(words);
            for (int reached = sum; reached < words * BITS; reached++) {
                for (int count = FEWEST_IN_RING; count <= MOST_IN_RING; count++) {
                    if (isReached(0, count, reached)) {
                        take(count, reached);
                        return true;
                    }
                }
            }
            return false;
        }

        int lastChosen() {
            return chosenCount > 0 ? chosen[chosenCount - 1] : 0;
        }

        int leastByTrying(int sum) {
            return leastFrom(breadths, 0, Math.min(candidates, MOST_ANEW), 0, 0, sum);
        }

        private static int leastFrom(int[] breadths, int from, int end, int count, int sum, int target) {
            if (from >= end) {
                boolean isSet = count >= FEWEST_IN_RING && count <= MOST_IN_RING && sum >= target;
                return isSet ? sum : NONE;
            }
            int without = leastFrom(breadths, from + 1, end, count, sum, target);
            int with = leastFrom(breadths, from + 1, end, count + 1, sum + breadths[from], target);
            return Math.min(without, with);
        }

        private static int rowOf(int from, int count) {
            return (from * COUNTS + count) * WORDS;
        }

        private boolean isReached(int from, int count, int sum) {
            return (sumBits[rowOf(from, count) + sum / BITS] >>> sum % BITS & 1L) == 1L;
        }

        private void fillRows(int words) {
            for (int count = 0; count < COUNTS; count++) {
                for (int word = 0; word < words; word++) {
                    sumBits[rowOf(candidates, count) + word] = 0L;
                }
            }
            sumBits[rowOf(candidates, 0)] = 1L;
            for (int from = candidates - 1; from >= 0; from--) {
                for (int count = 0; count < COUNTS; count++) {
                    fillRow(from, count, words);
                }
            }
        }

        private void fillRow(int from, int count, int words) {
            int row = rowOf(from, count);
            int without = rowOf(from + 1, count);
            for (int word = 0; word < words; word++) {
                sumBits[row + word] = sumBits[without + word];
            }
            if (count > 0) {
                addMoved(row, rowOf(from + 1, count - 1), breadths[from], words);
            }
        }

        private void addMoved(int row, int without, int breadth, int words) {
            int skipped = breadth / BITS;
            int bits = breadth % BITS;
            for (int word = skipped; word < words; word++) {
                long moved = sumBits[without + word - skipped] << bits;
                if (bits > 0 && word > skipped) {
                    moved |= sumBits[without + word - skipped - 1] >>> BITS - bits;
                }
                sumBits[row + word] |= moved;
            }
        }

        /** Takes each stave as soon as those behind it can make up the rest. */
        private void take(int count, int sum) {
            chosenSum = sum;
            chosenCount = 0;
            int rest = sum;
            for (int from = 0; from < candidates && chosenCount < count; from++) {
                int left = rest - breadths[from];
                if (left >= 0 && isReached(from + 1, count - chosenCount - 1, left)) {
                    chosen[chosenCount] = numbers[from];
                    chosenCount++;
                    rest = left;
                }
            }
        }
    }

    /** How much each layer gains by a toasting; all staves of a cask gain the same. */
    private static final class Fire {
        private final int[] heats = new int[LAYERS];
        final int[] gains = new int[LAYERS];

        void burn(int heat, int minutes) {
            for (int layer = 0; layer < LAYERS; layer++) {
                heats[layer] = 20;
                gains[layer] = 0;
            }
            for (int minute = 0; minute < minutes; minute++) {
                heats[0] = heat;
                for (int layer = 1; layer < LAYERS; layer++) {
                    heats[layer] += (heats[layer - 1] - heats[layer]) / 3;
                }
                for (int layer = 0; layer < LAYERS; layer++) {
                    gains[layer] += heats[layer] >= 150 ? 1 + (heats[layer] - 150) / 50 : 0;
                }
            }
        }
    }

    /** Tries of joints with air, counted. */
    private static final class Air {
        int blown;

        boolean blow(Cask cask, int from, int to) {
            blown++;
            return cask.firstSeeping(from, to) >= 0;
        }

        /** Answers -1 if no joint leaks. */
        int firstLeak(Cask cask) {
            int from = 0;
            int to = cask.size;
            if (!blow(cask, from, to)) {
                return -1;
            }
            for (int round = 0; round < MOST_IN_RING && to - from > 1; round++) {
                int middle = from + (to - from) / 2;
                if (blow(cask, from, middle)) {
                    to = middle;
                } else {
                    from = middle;
                }
            }
            return from;
        }
    }

    private static final class Vat {
        int volume;
        int tannin;
        int leastMonths;
        int regions;
        int fires;

        void learnOf(Cask cask) {
            leastMonths = volume == 0 ? cask.months : Math.min(leastMonths, cask.months);
            regions |= cask.regionBits();
            fires |= cask.fireBits();
        }

        void clear() {
            volume = 0;
            tannin = 0;
            leastMonths = 0;
            regions = 0;
            fires = 0;
        }
    }

    /** What became of all spirit, in centilitres, and the months it took. */
    private static final class Ledger {
        long filled;
        long lost;
        long carriedOff;
        long monthsKept;
    }

    private static final class Cask {
        private static final int SLICES = 20;

        private final Stave[] staves;
        final int[] ring = new int[MOST_IN_RING];
        int size;
        int length;
        final int[] sums = new int[HEIGHTS];
        private final int[][] due = new int[HEIGHTS][MOST_IN_RING];
        private final int[] rests = new int[MOST_IN_RING];
        boolean isBent;
        final int[] grooves = new int[ENDS];
        final boolean[] hasHead = new boolean[ENDS];
        final int[] hoops = new int[HOOPS];
        int volume;
        int tannin;
        int months;
        int uses;
        final char[] notes = new char[MOST_EVENTS];
        int noted;

        Cask(Stave[] itsStaves) {
            staves = itsStaves;
        }

        Stave staveIn(int place) {
            return staves[ring[place]];
        }

        void note(char what) {
            if (noted >= MOST_EVENTS) {
                System.arraycopy(notes, 1, notes, 0, MOST_EVENTS - 1);
                noted = MOST_EVENTS - 1;
            }
            notes[noted] = what;
            noted++;
        }

        void setUp(int[] chosen, int count) {
            size = count;
            sortByWidth(chosen, count);
            for (int rank = 0; rank < count; rank++) {
                ring[placeOfRank(rank)] = chosen[rank];
            }
            for (int height = 0; height < HEIGHTS; height++) {
                joint(height);
            }
            note('r');
        }

        /** Stable: of like ones, those with the lower numbers stay ahead. */
        private void sortByWidth(int[] chosen, int count) {
            for (int next = 1; next < count; next++) {
                int number = chosen[next];
                int rank = next;
                while (rank > 0 && staves[chosen[rank - 1]].width < staves[number].width) {
                    chosen[rank] = chosen[rank - 1];
                    rank--;
                }
                chosen[rank] = number;
            }
        }

        private int placeOfRank(int rank) {
            if (rank == 0) {
                return 0;
            }
            return rank % 2 == 1 ? (rank + 1) / 2 : size - rank / 2;
        }

        private void joint(int height) {
            int missing = 10 * sums[height];
            for (int place = 0; place < size && sums[BILGE] > 0; place++) {
                int whole = 10 * staveIn(place).width * sums[height];
                due[height][place] = whole / sums[BILGE];
                rests[place] = whole % sums[BILGE];
                missing -= due[height][place];
            }
            for (int given = 0; given < missing && given < size; given++) {
                int place = greatestRest();
                due[height][place]++;
                rests[place] = -1;
            }
        }

        private int greatestRest() {
            int greatest = 0;
            for (int place = 1; place < size; place++) {
                if (rests[place] > rests[greatest]) {
                    greatest = place;
                }
            }
            return greatest;
        }

        int madeWidth(int place, int height) {
            return due[height][place] - staveIn(place).errorAt(height);
        }

        int bendStaves(int minutesOfFire, int minutesOfSteam) {
            int bow = sums[BILGE] - Math.min(sums[UPPER], sums[LOWER]);
            int cracks = 0;
            for (int place = 0; place < size; place++) {
                Stave stave = staveIn(place);
                stave.flex(40 + bow / 5 + 10 * (3 - stave.region), minutesOfFire, minutesOfSteam);
                if (stave.isBroken) {
                    cracks++;
                }
            }
            return cracks;
        }

        int countChar() {
            int count = 0;
            for (int place = 0; place < size; place++) {
                for (int layer = 0; layer < LAYERS; layer++) {
                    if (staveIn(place).toasts[layer] >= CHAR_FROM) {
                        count++;
                    }
                }
            }
            return count;
        }

        private static int diameterOf(int sum) {
            return 1000 * sum / 3142;
        }

        int grooveDiameter(int end) {
            return diameterOf(sums[end == 0 ? UPPER : LOWER]) + 2 * grooves[end];
        }

        void strike(int hoop) {
            hoops[hoop] = Math.min(60, hoops[hoop] + (hoops[hoop] > 30 ? 1 : 2));
        }

        void loosenHoops() {
            for (int hoop = 0; hoop < HOOPS; hoop++) {
                hoops[hoop] = Math.max(0, hoops[hoop] - 1);
            }
        }

        boolean seepsAt(int joint, int height) {
            Stave ahead = staveIn(joint);
            Stave behind = staveIn(joint + 1 < size ? joint + 1 : 0);
            if (ahead.isBroken || behind.isBroken) {
                return true;
            }
            int tight = Math.min(hoops[2 * height], hoops[2 * height + 1]);
            return ahead.errorAt(height) > (ahead.moisture + behind.moisture) / 200 + tight / 10;
        }

        private boolean seeps(int joint) {
            return seepsAt(joint, UPPER) || seepsAt(joint, BILGE) || seepsAt(joint, LOWER);
        }

        /** Answers -1 if none of these joints leaks. */
        int firstSeeping(int from, int to) {
            for (int joint = from; joint < to; joint++) {
                if (seeps(joint)) {
                    return joint;
                }
            }
            return -1;
        }

        private int countSeepingJoints() {
            int count = 0;
            for (int joint = 0; joint < size; joint++) {
                if (seeps(joint)) {
                    count++;
                }
            }
            return count;
        }

        boolean holds() {
            return isBent && hasHead[0] && hasHead[1] && firstSeeping(0, size) < 0;
        }

        int trueContent() {
            long sum = 0;
            for (int slice = 0; slice < SLICES / 2; slice++) {
                sum += sliceContent(slice, sums[UPPER]) + sliceContent(slice, sums[LOWER]);
            }
            return (int) (sum / 10000);
        }

        private long sliceContent(int slice, int end) {
            int odd = 2 * slice + 1;
            long girth = sums[BILGE] - (sums[BILGE] - end) * odd * odd / 400;
            return girth * girth * 1000 / 12566 * (100 * length / SLICES);
        }

        int formulaContent(char land) {
            long bilge = diameterOf(sums[BILGE]);
            long head = diameterOf((sums[UPPER] + sums[LOWER]) / 2);
            long reach = 100L * length;
            if (land == 'e') {
                return (int) (reach * (2 * bilge * bilge + head * head) * 262 / 1000 / 10000);
            }
            long across = land == 'g' ? (bilge + head) / 2 : head + 2 * (bilge - head) / 3;
            return (int) (reach * across * across * 785 / 1000 / 10000);
        }

        int formulaError(char land) {
            return Math.abs(formulaContent(land) - trueContent());
        }

        /** Answers how much is lost. */
        int ageOneMonth(int floor) {
            int most = Math.max(1, 8 - 2 * (uses - 1));
            for (int place = 0; place < size; place++) {
                tannin += staveIn(place).give(most);
            }
            int share = volume * (2 + floor + 10 * countSeepingJoints()) / 1000;
            int loss = Math.min(volume, Math.max(1, share));
            months++;
            drain(loss);
            return loss;
        }

        int tapTannin(int amount) {
            if (volume == 0) {
                return 0;
            }
            int part = (int) (((long) tannin * amount + volume - 1) / volume);
            tannin -= part;
            return part;
        }

        void drain(int amount) {
            volume -= amount;
            if (volume == 0) {
                tannin = 0;
                months = 0;
                note('e');
            }
        }

        int countOriginals() {
            int count = 0;
            for (int place = 0; place < size; place++) {
                if (staveIn(place).isOriginal) {
                    count++;
                }
            }
            return count;
        }

        int regionBits() {
            int bits = 0;
            for (int place = 0; place < size; place++) {
                bits |= 1 << staveIn(place).region;
            }
            return bits;
        }

        int fireBits() {
            int bits = 0;
            for (int place = 0; place < size; place++) {
                bits |= staveIn(place).fireBit();
            }
            return bits;
        }

        void countRing(int[] seen) {
            for (int place = 0; place < size; place++) {
                seen[ring[place]]++;
            }
        }

        boolean dueMakesSums() {
            boolean right = true;
            for (int height = 0; height < HEIGHTS; height++) {
                int sum = 0;
                for (int place = 0; place < size; place++) {
                    sum += due[height][place];
                }
                right = right && sum == 10 * sums[height];
            }
            return right;
        }

        boolean bungAmongWidest() {
            boolean right = true;
            for (int place = 1; place < size; place++) {
                right = right && staveIn(place).width <= staveIn(0).width;
            }
            return right || countOriginals() < size;
        }
    }
}
