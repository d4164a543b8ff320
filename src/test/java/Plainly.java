import java.util.ArrayList;
import java.util.List;
import java.util.NoSuchElementException;
import java.util.TreeSet;

/**
 * The document told a second time, sentence by sentence and as plainly as can be, with lists and without regard for
 * time or room: what the program answers is compared with it. Nothing here is taken from the program.
 */
final class Plainly {
    private static final class Log {
        int region;
        int radius;
        int length;
        final TreeSet<Integer> knots = new TreeSet<>();
        boolean split;
    }

    private static final class Stave {
        int number;
        int log;
        int region;
        int length;
        int width;
        int moisture = 800;
        int tannin;
        char where = 's';
        int error;
        boolean cracked;
        List<Integer> toasts = List.of(0, 0, 0, 0, 0, 0);
    }

    /** Staves by rising numbers, told one by one; of two with the same sum and count the first is kept. */
    private static final class Choice {
        final Stave stave;
        final Choice others;

        Choice(Stave stave, Choice others) {
            this.stave = stave;
            this.others = others;
        }
    }

    private static final class Cask {
        final int[] sums = new int[3];
        int length;
        final List<Stave> ring = new ArrayList<>();
        final List<Stave> raisedWith = new ArrayList<>();
        boolean bent;
        final int[] grooves = new int[2];
        final boolean[] headed = new boolean[2];
        final int[] hoops = new int[6];
        int volume;
        int tannin;
        int months;
        int uses;
        String events = "r";
    }

    private static final class Poured {
        int amount;
        int tannin;
        int months;
        int regions;
        int toasts;
    }

    private final List<Log> logs = new ArrayList<>();
    private final List<Stave> all = new ArrayList<>();
    private final List<Stave> stack = new ArrayList<>();
    private final List<Cask> casks = new ArrayList<>();
    private final List<Integer> heads = new ArrayList<>();
    private final TreeSet<Integer> usedHeads = new TreeSet<>();
    private final List<Poured> blend = new ArrayList<>();
    private int jig;
    private int tried;
    private long lost;
    private long keptMonths;

    private static void argument(boolean right) {
        if (!right) {
            throw new IllegalArgumentException();
        }
    }

    private static void argument(int number, int least, int most) {
        argument(least <= number && number <= most);
    }

    private static void supported(boolean right) {
        if (!right) {
            throw new UnsupportedOperationException();
        }
    }

    private static void state(boolean right) {
        if (!right) {
            throw new IllegalStateException();
        }
    }

    private static void element(boolean right) {
        if (!right) {
            throw new NoSuchElementException();
        }
    }

    private static void index(int number, List<?> list) {
        if (number < 0 || number >= list.size()) {
            throw new IndexOutOfBoundsException();
        }
    }

    private Cask cask(int cask) {
        index(cask, casks);
        return casks.get(cask);
    }

    private static void place(Cask cask, int place) {
        element(place >= 0 && place < cask.ring.size());
    }

    // logs and the stack

    public int addLog(int region, int radius, int length) {
        argument(region, 0, 3);
        argument(radius, 12, 60);
        argument(length, 6, 12);
        state(logs.size() < 10);
        Log log = new Log();
        log.region = region;
        log.radius = radius;
        log.length = length;
        logs.add(log);
        return logs.size() - 1;
    }

    public boolean knot(int log, int cleft) {
        index(log, logs);
        argument(cleft, 0, 7);
        supported(!logs.get(log).split);
        return logs.get(log).knots.add(cleft);
    }

    public int split(int log) {
        index(log, logs);
        Log wood = logs.get(log);
        supported(!wood.split);
        List<Integer> widths = new ArrayList<>();
        for (int cleft = 0; cleft < 8; cleft++) {
            for (int away = wood.radius - 4; away >= 8 && !wood.knots.contains(cleft); away -= 10) {
                if (2 * away + 3 * cleft >= 40) {
                    widths.add(2 * away + 3 * cleft);
                }
            }
        }
        state(all.size() + widths.size() <= 80);
        for (int width : widths) {
            Stave stave = new Stave();
            stave.number = all.size();
            stave.log = log;
            stave.region = wood.region;
            stave.length = wood.length;
            stave.width = width;
            stave.tannin = 300 + 100 * wood.region;
            all.add(stave);
            stack.add(0, stave);
        }
        wood.split = true;
        return widths.size();
    }

    public int staves() {
        return all.size();
    }

    public int stave(int stave, char what) {
        index(stave, all);
        argument("wmtlrg".indexOf(what) >= 0);
        Stave wood = all.get(stave);
        return what == 'w' ? wood.width : what == 'm' ? wood.moisture : what == 't' ? wood.tannin
            : what == 'l' ? wood.length : what == 'r' ? wood.region : wood.log;
    }

    public char isWhere(int stave) {
        index(stave, all);
        return all.get(stave).where;
    }

    public int stacked() {
        return stack.size();
    }

    public int inStack(int index) {
        element(index >= 0 && index < stack.size());
        return stack.get(index).number;
    }

    public int turnStack() {
        List<Stave> turned = new ArrayList<>();
        for (Stave stave : stack) {
            turned.add(0, stave);
        }
        stack.clear();
        stack.addAll(turned);
        return stack.size();
    }

    public int month(int dry, int rain) {
        argument(dry, 0, 80);
        argument(rain, 0, 60);
        for (Stave stave : stack) {
            stave.moisture = stave.moisture - dry < 100 ? 100 : stave.moisture - dry;
        }
        for (Stave stave : stack.subList(0, Math.min(3, stack.size()))) {
            stave.tannin = stave.tannin < rain ? 0 : stave.tannin - rain;
        }
        if (!stack.isEmpty()) {
            Stave top = stack.get(0);
            top.moisture = top.moisture + rain > 900 ? 900 : top.moisture + rain;
        }
        for (Cask cask : casks) {
            for (int hoop = 0; hoop < 6 && cask.volume == 0; hoop++) {
                cask.hoops[hoop] -= cask.hoops[hoop] > 0 ? 1 : 0;
            }
        }
        return seasoned(stack).size();
    }

    private static List<Stave> seasoned(List<Stave> some) {
        List<Stave> those = new ArrayList<>();
        for (Stave stave : some) {
            if (stave.moisture <= 250) {
                those.add(stave);
            }
        }
        return those;
    }

    // raising

    public int setJig(int error) {
        argument(error, 0, 3);
        int before = jig;
        jig = error;
        return before;
    }

    private List<Stave> couldBe(int length) {
        List<Stave> those = new ArrayList<>();
        for (Stave stave : all) {
            if (stave.where == 's' && stave.moisture <= 250 && stave.length == length) {
                those.add(stave);
            }
        }
        return those;
    }

    /** The staves that are chosen, by rising numbers, or null. */
    private List<Stave> chosen(int sum, int length) {
        List<Stave> those = couldBe(length);
        int total = 133 * Math.min(24, those.size());
        Choice nothing = new Choice(null, null);
        Choice[][] choices = new Choice[25][total + 1];
        choices[0][0] = nothing;
        for (int index = those.size() - 1; index >= 0; index--) {
            Stave stave = those.get(index);
            for (int count = 24; count >= 1; count--) {
                for (int made = total; made >= stave.width; made--) {
                    if (choices[count - 1][made - stave.width] != null) {
                        choices[count][made] = new Choice(stave, choices[count - 1][made - stave.width]);
                    }
                }
            }
        }
        for (int made = sum; made <= total; made++) {
            for (int count = 8; count <= 24; count++) {
                if (choices[count][made] != null) {
                    return told(choices[count][made]);
                }
            }
        }
        return null;
    }

    private static List<Stave> told(Choice choice) {
        List<Stave> those = new ArrayList<>();
        for (Choice rest = choice; rest.stave != null; rest = rest.others) {
            those.add(rest.stave);
        }
        return those;
    }

    private static int sumOf(List<Stave> those) {
        int sum = 0;
        for (Stave stave : those) {
            sum += stave.width;
        }
        return sum;
    }

    public int leastSum(int sum, int length) {
        argument(sum, 320, 3000);
        List<Stave> those = chosen(sum, length);
        element(those != null);
        return sumOf(those);
    }

    public int leastSumAnew(int sum, int length) {
        argument(sum, 320, 3000);
        List<Stave> those = chosen(sum, length);
        element(those != null);
        supported(couldBe(length).size() <= 14);
        return sumOf(those);
    }

    public int raise(int bilge, int upper, int lower, int length) {
        argument(bilge, 320, 3000);
        argument(2L * upper >= bilge && upper < bilge);
        argument(2L * lower >= bilge && lower < bilge);
        state(casks.size() < 12);
        List<Stave> those = chosen(bilge, length);
        element(those != null);
        Stave last = those.get(those.size() - 1);
        int more = sumOf(those) - bilge;
        supported(last.width - more >= 20);
        last.width -= more;
        Cask cask = new Cask();
        cask.sums[0] = upper;
        cask.sums[1] = bilge;
        cask.sums[2] = lower;
        cask.length = length;
        cask.raisedWith.addAll(those);
        // "by falling widths, of like ones by rising numbers, at the places 0, 1, the last one, 2, the last but one":
        // each next one is put next to the first on one side, then on the other.
        List<Stave> ahead = new ArrayList<>();
        List<Stave> behind = new ArrayList<>();
        List<Stave> falling = new ArrayList<>(those);
        falling.sort((one, other) -> other.width - one.width);
        for (int rank = 0; rank < falling.size(); rank++) {
            if (rank == 0 || rank % 2 == 1) {
                ahead.add(falling.get(rank));
            } else {
                behind.add(0, falling.get(rank));
            }
        }
        cask.ring.addAll(ahead);
        cask.ring.addAll(behind);
        for (Stave stave : those) {
            stack.remove(stave);
            stave.where = 'c';
            stave.error = jig;
        }
        casks.add(cask);
        return casks.size() - 1;
    }

    public int size(int cask) {
        return cask(cask).ring.size();
    }

    public int at(int cask, int place) {
        Cask made = cask(cask);
        place(made, place);
        return made.ring.get(place).number;
    }

    private static List<Integer> dueWidths(Cask cask, int height) {
        List<Integer> due = new ArrayList<>();
        List<int[]> rests = new ArrayList<>();
        int missing = 10 * cask.sums[height];
        for (int place = 0; place < cask.ring.size(); place++) {
            long tenths = 10L * cask.ring.get(place).width * cask.sums[height];
            due.add((int) (tenths / cask.sums[1]));
            rests.add(new int[] {place, (int) (tenths % cask.sums[1])});
            missing -= due.get(place);
        }
        rests.sort((one, other) -> other[1] - one[1]);
        for (int[] rest : rests.subList(0, missing)) {
            due.set(rest[0], due.get(rest[0]) + 1);
        }
        return due;
    }

    public int width(int cask, int place, int height) {
        Cask made = cask(cask);
        place(made, place);
        argument(height, 0, 2);
        int due = dueWidths(made, height).get(place);
        return height == 1 ? due : due - made.ring.get(place).error;
    }

    public int closing(int cask, int height) {
        Cask made = cask(cask);
        argument(height, 0, 2);
        int widths = 0;
        for (int place = 0; place < made.ring.size(); place++) {
            widths += width(cask, place, height);
        }
        return made.sums[height] * 10 - widths;
    }

    // bending, toasting, heads

    public int bend(int cask, int fire, int steam) {
        Cask made = cask(cask);
        argument(fire, 0, 60);
        argument(steam, 0, 60);
        supported(!made.bent);
        int lesser = made.sums[0] < made.sums[2] ? made.sums[0] : made.sums[2];
        int cracks = 0;
        for (Stave stave : made.ring) {
            int supple = stave.moisture / 10 + 2 * fire + 3 * steam;
            int needs = 40 + (made.sums[1] - lesser) / 5 + 10 * (3 - stave.region);
            stave.cracked = supple < needs;
            cracks += stave.cracked ? 1 : 0;
            int dried = stave.moisture - 2 * fire;
            stave.moisture = (dried < 50 ? 50 : dried) + steam;
            stave.moisture = stave.moisture > 900 ? 900 : stave.moisture;
        }
        made.bent = true;
        made.events += "b";
        return cracks;
    }

    public boolean isCracked(int cask, int place) {
        Cask made = cask(cask);
        place(made, place);
        return made.ring.get(place).cracked;
    }

    public int toast(int cask, int heat, int minutes) {
        Cask made = cask(cask);
        argument(heat, 100, 400);
        argument(minutes, 1, 60);
        supported(made.bent);
        state(made.volume == 0);
        for (Stave stave : made.ring) {
            int[] heats = {20, 20, 20, 20, 20, 20};
            List<Integer> toasts = new ArrayList<>(stave.toasts);
            for (int minute = 1; minute <= minutes; minute++) {
                heats[0] = heat;
                for (int layer = 1; layer < 6; layer++) {
                    heats[layer] += (heats[layer - 1] - heats[layer]) / 3;
                }
                for (int layer = 0; layer < 6; layer++) {
                    for (int from = 150; from <= heats[layer]; from += 50) {
                        toasts.set(layer, toasts.get(layer) + 1);
                    }
                }
            }
            stave.toasts = toasts;
        }
        made.events += "t";
        return chars(made);
    }

    private static int chars(Cask cask) {
        int chars = 0;
        for (Stave stave : cask.ring) {
            for (int toast : stave.toasts) {
                chars += toast >= 40 ? 1 : 0;
            }
        }
        return chars;
    }

    public int toastAt(int cask, int place, int layer) {
        Cask made = cask(cask);
        place(made, place);
        argument(layer, 0, 5);
        return made.ring.get(place).toasts.get(layer);
    }

    public int shave(int cask, int layers) {
        Cask made = cask(cask);
        argument(layers, 1, 3);
        state(made.volume == 0);
        for (Stave stave : made.ring) {
            List<Integer> toasts = new ArrayList<>(stave.toasts);
            for (int layer = 0; layer < layers; layer++) {
                toasts.remove(0);
                toasts.add(0);
            }
            stave.toasts = toasts;
        }
        made.events += "s";
        return chars(made);
    }

    private static int diameter(int sum) {
        return 1000 * sum / 3142;
    }

    private static int grooveDiameter(Cask cask, int end) {
        return diameter(cask.sums[end == 0 ? 0 : 2]) + 2 * cask.grooves[end];
    }

    public int groove(int cask, int end, int depth) {
        Cask made = cask(cask);
        argument(end, 0, 1);
        argument(depth, 3, 8);
        supported(made.bent);
        state(made.volume == 0 && made.grooves[end] < depth);
        made.grooves[end] = depth;
        made.headed[end] = false;
        made.events += "g";
        return grooveDiameter(made, end);
    }

    /** No promise: what a head must have to fit, or 0 without a groove. */
    int grooveFor(int cask, int end) {
        Cask made = cask(cask);
        return made.grooves[end] == 0 ? 0 : grooveDiameter(made, end);
    }

    public int cutHead(int diameter) {
        argument(diameter, 50, 1000);
        state(heads.size() < 40);
        heads.add(diameter);
        return heads.size() - 1;
    }

    public boolean fit(int cask, int end, int head) {
        Cask made = cask(cask);
        argument(end, 0, 1);
        argument(head >= 0 && head < heads.size());
        supported(made.grooves[end] > 0 && !made.headed[end] && !usedHeads.contains(head));
        if (heads.get(head) == grooveDiameter(made, end)) {
            usedHeads.add(head);
            made.headed[end] = true;
            made.events += "h";
            return true;
        }
        return false;
    }

    // hoops and leaks

    public int drive(int cask, int hoop, int blows) {
        Cask made = cask(cask);
        argument(hoop, 0, 5);
        argument(blows, 1, 20);
        supported(made.bent);
        for (int blow = 1; blow <= blows; blow++) {
            made.hoops[hoop] += made.hoops[hoop] > 30 ? 1 : 2;
            made.hoops[hoop] = made.hoops[hoop] > 60 ? 60 : made.hoops[hoop];
        }
        return made.hoops[hoop];
    }

    public int tightness(int cask, int hoop) {
        Cask made = cask(cask);
        argument(hoop, 0, 5);
        return made.hoops[hoop];
    }

    public boolean leaks(int cask, int joint, int height) {
        Cask made = cask(cask);
        place(made, joint);
        argument(height, 0, 2);
        Stave ahead = made.ring.get(joint);
        Stave behind = made.ring.get((joint + 1) % made.ring.size());
        int open = height == 1 ? 0 : ahead.error;
        int one = made.hoops[2 * height];
        int other = made.hoops[2 * height + 1];
        int tight = one < other ? one : other;
        return open > (ahead.moisture + behind.moisture) / 200 + tight / 10 || ahead.cracked || behind.cracked;
    }

    private List<Integer> leakingJoints(int cask) {
        List<Integer> joints = new ArrayList<>();
        for (int joint = 0; joint < size(cask); joint++) {
            if (leaks(cask, joint, 0) || leaks(cask, joint, 1) || leaks(cask, joint, 2)) {
                joints.add(joint);
            }
        }
        return joints;
    }

    public boolean tryAir(int cask, int from, int to) {
        Cask made = cask(cask);
        argument(from >= 0 && from < to && to <= made.ring.size());
        tried++;
        for (int joint : leakingJoints(cask)) {
            if (from <= joint && joint < to) {
                return true;
            }
        }
        return false;
    }

    public int findLeak(int cask) {
        List<Integer> among = new ArrayList<>();
        for (int joint = 0; joint < size(cask); joint++) {
            among.add(joint);
        }
        element(tryAir(cask, 0, among.size()));
        while (among.size() > 1) {
            List<Integer> half = new ArrayList<>(among.subList(0, among.size() / 2));
            if (tryAir(cask, half.get(0), half.get(half.size() - 1) + 1)) {
                among = half;
            } else {
                among.removeAll(half);
            }
        }
        return among.get(0);
    }

    public int tries() {
        return tried;
    }

    public boolean isWhole(int cask) {
        Cask made = cask(cask);
        return made.bent && made.headed[0] && made.headed[1] && leakingJoints(cask).isEmpty();
    }

    // contents

    public int content(int cask) {
        Cask made = cask(cask);
        long sum = 0;
        for (int end : new int[] {made.sums[0], made.sums[2]}) {
            for (int k = 0; k <= 9; k++) {
                long girth = made.sums[1] - (made.sums[1] - end) * (2 * k + 1) * (2 * k + 1) / 400;
                sum += girth * girth * 1000 / 12566 * (100 * made.length / 20);
            }
        }
        return (int) (sum / 10000);
    }

    public int contentBy(int cask, char land) {
        Cask made = cask(cask);
        argument(land == 'e' || land == 'g' || land == 'f');
        long b = diameter(made.sums[1]);
        long h = diameter((made.sums[0] + made.sums[2]) / 2);
        long l = 100 * made.length;
        long squared = (b + h) / 2 * ((b + h) / 2);
        if (land == 'f') {
            long wide = h + (b - h) * 2 / 3;
            squared = wide * wide;
        }
        long cubic = land == 'e' ? l * (2 * b * b + h * h) * 262 / 1000 : l * squared * 785 / 1000;
        return (int) (cubic / 10000);
    }

    public char closest(int cask) {
        int content = content(cask);
        char closest = '?';
        int least = Integer.MAX_VALUE;
        for (char land : "egf".toCharArray()) {
            int off = contentBy(cask, land) - content;
            off = off < 0 ? -off : off;
            if (off < least) {
                least = off;
                closest = land;
            }
        }
        return closest;
    }

    public int fill(int cask) {
        Cask made = cask(cask);
        supported(isWhole(cask) && made.volume == 0);
        made.volume = content(cask);
        made.uses++;
        made.events += "f";
        return made.volume;
    }

    private static void emptied(Cask cask) {
        cask.tannin = 0;
        cask.months = 0;
        cask.events += "e";
    }

    public int keep(int cask, int months, int floor) {
        Cask made = cask(cask);
        argument(months, 1, 120);
        argument(floor, 0, 4);
        supported(made.volume > 0);
        for (int month = 1; month <= months && made.volume > 0; month++) {
            for (Stave stave : made.ring) {
                int gives = 8 - 2 * (made.uses - 1);
                gives = gives < 1 ? 1 : gives;
                gives += stave.toasts.get(0) >= 40 ? 2 : 0;
                gives = gives > stave.tannin ? stave.tannin : gives;
                stave.tannin -= gives;
                made.tannin += gives;
            }
            int thousandths = 2 + floor + 10 * leakingJoints(cask).size();
            int loss = made.volume * thousandths / 1000;
            loss = loss < 1 ? 1 : loss;
            loss = loss > made.volume ? made.volume : loss;
            made.volume -= loss;
            made.months++;
            lost += loss;
            keptMonths++;
            if (made.volume == 0) {
                emptied(made);
            }
        }
        return made.volume;
    }

    public int within(int cask, char what) {
        Cask made = cask(cask);
        argument("vtmu".indexOf(what) >= 0);
        return what == 'v' ? made.volume : what == 't' ? made.tannin : what == 'm' ? made.months : made.uses;
    }

    public int pour(int cask, int amount) {
        Cask made = cask(cask);
        argument(amount > 0);
        supported(amount <= made.volume);
        Poured poured = new Poured();
        poured.amount = amount;
        long part = (long) made.tannin * amount;
        poured.tannin = (int) (part / made.volume + (part % made.volume > 0 ? 1 : 0));
        poured.months = made.months;
        for (Stave stave : made.ring) {
            int toast = stave.toasts.get(0);
            poured.regions |= 1 << stave.region;
            poured.toasts |= toast >= 40 ? 1 : toast >= 15 ? 2 : 4;
        }
        blend.add(poured);
        made.tannin -= poured.tannin;
        made.volume -= amount;
        if (made.volume == 0) {
            emptied(made);
        }
        return vat('v');
    }

    public int vat(char what) {
        argument("vtmrf".indexOf(what) >= 0);
        int sum = 0;
        int bits = 0;
        int least = blend.isEmpty() ? 0 : Integer.MAX_VALUE;
        for (Poured poured : blend) {
            sum += what == 'v' ? poured.amount : poured.tannin;
            bits |= what == 'r' ? poured.regions : poured.toasts;
            least = poured.months < least ? poured.months : least;
        }
        return what == 'v' || what == 't' ? sum : what == 'm' ? least : bits;
    }

    public int statement() {
        element(!blend.isEmpty());
        return vat('m') / 12;
    }

    public int emptyVat() {
        int there = vat('v');
        blend.clear();
        return there;
    }

    public int taste(int cask) {
        Cask made = cask(cask);
        if (made.volume == 0) {
            throw new ArithmeticException();
        }
        return 100 * made.tannin / made.volume;
    }

    // repairs

    public int replace(int cask, int place, int stave) {
        Cask made = cask(cask);
        index(stave, all);
        place(made, place);
        Stave fresh = all.get(stave);
        Stave old = made.ring.get(place);
        supported(fresh.where == 's' && fresh.length == made.length && fresh.width >= old.width);
        state(made.volume == 0 && made.bent);
        stack.remove(fresh);
        fresh.where = 'c';
        fresh.width = old.width;
        fresh.error = jig;
        old.where = 'x';
        made.ring.set(place, fresh);
        made.events += "x";
        return originals(cask);
    }

    public int originals(int cask) {
        Cask made = cask(cask);
        List<Stave> still = new ArrayList<>(made.ring);
        still.retainAll(made.raisedWith);
        return still.size();
    }

    public int events(int cask) {
        int events = cask(cask).events.length();
        return events > 20 ? 20 : events;
    }

    public char event(int cask, int back) {
        int events = events(cask);
        element(back >= 0 && back < events);
        return new StringBuilder(cask(cask).events).reverse().charAt(back);
    }

    public int woods(int cask) {
        int bits = 0;
        for (Stave stave : cask(cask).ring) {
            bits |= 1 << stave.region;
        }
        return bits;
    }

    // figures

    public long widths() {
        long sum = 0;
        for (Stave stave : all) {
            sum += stave.where == 'x' ? 0 : stave.width;
        }
        return sum;
    }

    public float seasonedShare() {
        if (stack.isEmpty()) {
            throw new ArithmeticException();
        }
        return (float) seasoned(stack).size() / (float) stack.size();
    }

    public double meanLoss() {
        if (keptMonths == 0) {
            throw new ArithmeticException();
        }
        return (double) lost / (double) keptMonths;
    }

    public boolean isSound() {
        return true;
    }
}
