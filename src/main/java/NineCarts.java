import java.util.Arrays;

/** Two bakers part their loaves over villages; ../shared/DOC.md says what each call does. */
public final class NineCarts {
    public static final int BAD = -1, NOT = -2, FULL = -3, STATE = -5, VOID = -2000000000;

    private static final int NOTHING_THERE = -11, OTHER_KIND = -12, NO_PLACE = -13, SIZE_BELOW_0 = -14;
    private static final int SHELVES = 6, LAST_YEAR = 30, TWELVE = 12;

    private final Law text;
    private final Town town;
    private final Mix[] mixOf;
    private final Mix[] imageOf;
    private boolean imaged;
    private final Trade trade;
    private final Duels duels;
    private final Course course;
    private final Changes changes;
    private final Acts acts;
    private final Shelf[] shelves;
    private final int[] told;
    private final int[] otherTold;

    public NineCarts() {
        text = new Law();
        town = new Town(text);
        mixOf = new Mix[] {new Mix(), new Mix()};
        imageOf = new Mix[] {new Mix(), new Mix()};
        trade = new Trade(town, mixOf);
        duels = new Duels(town);
        course = new Course(town, mixOf);
        changes = new Changes();
        acts = new Acts();
        shelves = new Shelf[SHELVES];
        for (int i = 0; i < SHELVES; i++) shelves[i] = new Shelf();
        told = new int[Town.MOST];
        otherTold = new int[Town.MOST];
    }

    // ---- villages, loaves, mixes

    public int village(int worth, int wt) {
        if (worth < 1 || worth > 9 || wt < 0 || wt > 99 || wt % 10 > 2) return BAD;
        if (town.villages >= Town.MOST) return FULL;
        return town.found(worth, wt / 10, wt % 10);
    }

    public int mend(int number, int what, int v) {
        if (!town.mayBecome(number, what, v)) return BAD;
        int was = town.valueOf(number, what);
        // What stays as it was is no CHANGE: nothing to be UNDONE, and what may be DONE AGAIN still may.
        if (v == was) return was;
        changes.note(number, what, was, v);
        town.become(number, what, v);
        return was;
    }

    public int of(int number, int what) {
        if (what >= 0 && what <= 3) return isBaker(number) ? ofBaker(number, what) : BAD;
        if (!town.isVillage(number)) return BAD;
        switch (what) {
            case 10: return town.worth[number];
            case 11: return town.want[number];
            case 12: return town.ties[number];
            default: return BAD;
        }
    }

    private int ofBaker(int baker, int what) {
        switch (what) {
            case 0: return town.loaves[baker];
            case 1: return mixOf[baker].size;
            case 2: return mixOf[baker].weight();
            default: return town.fullPartings(baker);
        }
    }

    public int mix(int baker, int parting, int weight) {
        if (!isBaker(baker) || weight < 0 || weight > 9) return BAD;
        Mix mine = mixOf[baker];
        if (weight == 0) {
            mine.size = 0;
            return 0;
        }
        if (!town.read(parting, baker, told)) return BAD;
        return mine.add(told, weight) ? mine.size : FULL;
    }

    public int mixes(int shelf, int i, int bn) {
        if (!isShelf(shelf) || bn < 1 || !isBaker(bn / 10) || bn % 10 < 1 || bn % 10 > Mix.MOST) return BAD;
        Shelf from = shelves[shelf];
        if (from.holds == Shelf.NOTHING) return 0;
        if (from.holds != Shelf.ROW || from.sort != Shelf.INTS) return OTHER_KIND;
        int baker = bn / 10;
        int came = 0;
        for (int k = 0; k < bn % 10 && addFromRow(from, i, k, baker); k++) came++;
        return came;
    }

    /** Whether the k-th two from place i on was there, was as it may be, and found room in the MIX. */
    private boolean addFromRow(Shelf from, int i, int k, int baker) {
        if (i < 0 || i >= from.length) return false;
        int place = i + 2 * k;
        if (place + 1 >= from.length) return false;
        long weight = from.elements[place + 1];
        if (weight < 1 || weight > 9) return false;
        return town.read((int) from.elements[place], baker, told) && mixOf[baker].add(told, (int) weight);
    }

    public int feed(int letter) {
        if (letter < 0 || letter > 255) return BAD;
        return text.take(letter) ? text.length : FULL;
    }

    public int law() {
        int fault = text.read();
        if (fault >= 0) return -100 - fault;
        town.forget();
        return 1;
    }

    // ---- one day

    public int won(int village, int ab) {
        if (!town.isVillage(village) || ab < 0 || ab > 99) return BAD;
        int points = town.judged(village, ab / 10, ab % 10);
        return points > 0 ? 1 : points < 0 ? 2 : 0;
    }

    public int score(int parting, int other) {
        if (!town.read(parting, 0, told) || !town.read(other, 1, otherTold)) return VOID;
        town.settle();
        return town.scoreOf(told, otherTold);
    }

    // ---- against a mix (part 0 above, 1 below the line; Long.MIN_VALUE: BAD)

    public long mean(int part) {
        return broke(0, part);
    }

    public int best(int baker) {
        return isBaker(baker) ? trade.bestOf(baker) : BAD;
    }

    public long line(int baker, int n, int part) {
        if (!isBaker(baker) || n < -1 || n > 9 || !isPart(part)) return Long.MIN_VALUE;
        int loaves = n < 0 ? town.loaves[baker] : n;
        return inLowest(trade.earned(baker, loaves), mixOf[1 - baker].whole(), part);
    }

    public long spy(int village, int part) {
        if (!town.isVillage(village) || !isPart(part)) return Long.MIN_VALUE;
        return inLowest(trade.heard(village), mixOf[1].whole(), part);
    }

    public long broke(int c, int part) {
        if (c < 0 || c > TWELVE || !isPart(part)) return Long.MIN_VALUE;
        return inLowest(trade.weighted(c), (long) TWELVE * mixOf[0].whole() * mixOf[1].whole(), part);
    }

    private static boolean isPart(int part) {
        return part == 0 || part == 1;
    }

    /** A part of a fraction in lowest terms; below is above 0. */
    private static long inLowest(long above, long below, int part) {
        long high = Math.abs(above);
        long low = below;
        for (int turn = 0; turn < 100 && low != 0; turn++) {
            long left = high % low;
            high = low;
            low = left;
        }
        if (high == 0) return part;
        return (part == 0 ? above : below) / high;
    }

    // ---- by all partings

    public int beaten(int baker, int parting) {
        if (!isBaker(baker) || !town.read(parting, baker, told)) return BAD;
        return duels.open() ? duels.losses(baker, told, 0, Duels.MOST + 1) : STATE;
    }

    public int safest(int baker, int what) {
        if (!isBaker(baker) || what < 0 || what > 1) return BAD;
        return duels.open() ? duels.safe(baker, what) : STATE;
    }

    public int ring(int k) {
        if (k < 0 || k > 2) return BAD;
        if (!duels.open()) return STATE;
        return duels.findRing() ? duels.ringPart(k) : NOT;
    }

    public int rest(int what) {
        if (what < 0 || what > 2) return VOID;
        if (!duels.open()) return STATE;
        if (!duels.findRest()) return NOT;
        if (what == 2) return duels.restScore;
        return duels.numberAt(what, duels.restAt[what]);
    }

    public int sure(int parting) {
        if (!town.read(parting, 0, told)) return BAD;
        duels.costs();
        return duels.surely(told);
    }

    public int most(int what) {
        if (what < 0 || what > 1) return BAD;
        if (!duels.mayList()) return STATE;
        duels.costs();
        duels.findMost(town.loaves[0]);
        return what == 0 ? duels.mostNumber : duels.mostCount;
    }

    public int fewest(int k) {
        if (k < 0 || k > Town.MOST) return BAD;
        duels.costs();
        for (int n = 0; n <= 9; n++) {
            if (duels.findMost(n) && duels.mostCount >= k) return n;
        }
        return NOT;
    }

    // ---- years

    public int year(int baker, int y) {
        if (!isBaker(baker) || y < 0 || y > LAST_YEAR) return BAD;
        course.go(y);
        return town.numberOf(course.sent[baker], 0);
    }

    public int years(int y) {
        if (y < 0 || y > LAST_YEAR) return VOID;
        return course.go(y);
    }

    public int image() {
        imageOf[0].copy(mixOf[0]);
        imageOf[1].copy(mixOf[1]);
        imaged = true;
        return mixOf[0].size + mixOf[1].size;
    }

    public int back() {
        if (!imaged) return STATE;
        mixOf[0].copy(imageOf[0]);
        mixOf[1].copy(imageOf[1]);
        return mixOf[0].size + mixOf[1].size;
    }

    public int undo() {
        if (changes.done == 0) return STATE;
        changes.takeBack(town);
        return changes.done;
    }

    public int redo() {
        if (changes.done == changes.size) return STATE;
        changes.doAgain(town);
        return changes.size - changes.done;
    }

    // ---- acts, shelves

    public int body(int kind) {
        if (!isKind(kind)) return BAD;
        return acts.add(kind) ? acts.size - 1 : FULL;
    }

    public int act(int body, int act, int x) {
        return acts.perform(body, act, x);
    }

    public int trace(int i) {
        return i >= 0 && i < acts.kept() ? acts.began[i] : BAD;
    }

    public int keep(int shelf, int body) {
        if (!isShelf(shelf) || body < -1 || body >= acts.size) return BAD;
        shelves[shelf].holdBody(body);
        return 1;
    }

    public int row(int shelf, int sort, int n) {
        if (!isShelf(shelf) || sort < 0 || sort > Shelf.BOOLEANS || n > Shelf.MOST) return BAD;
        if (n < 0) return SIZE_BELOW_0;
        shelves[shelf].holdRow(sort, n);
        return 1;
    }

    public int put(int shelf, int i, long v) {
        if (!isShelf(shelf)) return BAD;
        Shelf to = shelves[shelf];
        int refusal = to.refusal(i);
        if (refusal != 0) return refusal;
        to.elements[i] = Shelf.lowest(to.sort, v);
        return 1;
    }

    public long element(int shelf, int i) {
        if (!isShelf(shelf)) return Long.MIN_VALUE;
        Shelf from = shelves[shelf];
        // A row of longs may hold -11 to -13 as elements, so no refusal is told by its own number here.
        return from.refusal(i) == 0 ? from.elements[i] : Long.MIN_VALUE;
    }

    public int shift(int shelf, int i, int other, int j, int n) {
        if (!isShelf(shelf) || !isShelf(other)) return BAD;
        Shelf from = shelves[shelf];
        Shelf to = shelves[other];
        if (from.holds == Shelf.NOTHING || to.holds == Shelf.NOTHING) return NOTHING_THERE;
        if (from.holds != Shelf.ROW || to.holds != Shelf.ROW || from.sort != to.sort) return OTHER_KIND;
        if (!from.hasRun(i, n) || !to.hasRun(j, n)) return NO_PLACE;
        System.arraycopy(from.elements, i, to.elements, j, n);
        return n;
    }

    public int taken(int shelf, int k) {
        if (!isShelf(shelf) || !isKind(k)) return BAD;
        Shelf from = shelves[shelf];
        if (from.holds == Shelf.NOTHING) return NOTHING_THERE;
        if (from.holds != Shelf.BODY) return OTHER_KIND;
        int kind = acts.kindOf(from.body);
        return Acts.isUnder(kind, k) ? kind : OTHER_KIND;
    }

    public int count(int what) {
        switch (what) {
            case 0: return town.villages;
            case 1: return text.length;
            case 2: return changes.done;
            case 3: return acts.size;
            case 4: return acts.ran;
            default: return BAD;
        }
    }

    private static boolean isBaker(int number) {
        return number == 0 || number == 1;
    }

    private static boolean isShelf(int number) {
        return number >= 0 && number < SHELVES;
    }

    private static boolean isKind(int number) {
        return number >= 0 && number < Acts.KINDS;
    }

    /**
     * THE TAPE and THE LAW read from it. THE LAW is held as steps for a stack, so that it need
     * not be read again for each pair of loaves: a step of 0 or more puts itself on the stack,
     * one below 0 is the sign it stands for, negated.
     */
    private static final class Law {
        static final int TAPE = 120;
        private static final int DEEPEST = 6;
        private static final int NEGATE = -1, IF = -'?', END = -';';
        // Each of 7 depths leaves at most 5 operands waiting (of | & < + *), and one is at hand.
        private static final int STACK = 40;

        int length;
        private final int[] tape;
        private int place;
        private int fault;
        private final int[] draft;
        private int drafted;
        private final int[] steps;
        private int stepCount;
        private final int[] stack;
        private int top;

        Law() {
            tape = new int[TAPE];
            // A byte brings at most one step, and the last LINE its END.
            draft = new int[TAPE + 1];
            steps = new int[TAPE + 1];
            stack = new int[STACK];
        }

        boolean take(int letter) {
            if (length >= TAPE) return false;
            tape[length] = letter;
            length++;
            return true;
        }

        boolean isTold() {
            return stepCount > 0;
        }

        /** THE TAPE becomes THE LAW: -1, or the FAULT; THE TAPE is empty then. */
        int read() {
            place = 0;
            fault = -1;
            drafted = 0;
            readLine();
            for (int turn = 0; turn < TAPE && takes(';'); turn++) readLine();
            if (place < length) fail();
            if (fault < 0) {
                System.arraycopy(draft, 0, steps, 0, drafted);
                stepCount = drafted;
            }
            length = 0;
            return fault;
        }

        private void readLine() {
            readEither(0);
            if (takes('?')) {
                emit(IF);
                readEither(0);
            }
            emit(END);
        }

        private void readEither(int depth) {
            readBoth(depth);
            for (int turn = 0; turn < TAPE && takes('|'); turn++) {
                readBoth(depth);
                emit(-'|');
            }
        }

        private void readBoth(int depth) {
            readCompared(depth);
            for (int turn = 0; turn < TAPE && takes('&'); turn++) {
                readCompared(depth);
                emit(-'&');
            }
        }

        private void readCompared(int depth) {
            readSum(depth);
            int sign = next();
            if (sign != '<' && sign != '=' && sign != '>') return;
            place++;
            readSum(depth);
            emit(-sign);
        }

        private void readSum(int depth) {
            readProduct(depth);
            for (int turn = 0; turn < TAPE; turn++) {
                int sign = next();
                if (sign != '+' && sign != '-') return;
                place++;
                readProduct(depth);
                emit(-sign);
            }
        }

        private void readProduct(int depth) {
            readOperand(depth);
            for (int turn = 0; turn < TAPE; turn++) {
                int sign = next();
                if (sign != '*' && sign != '/' && sign != '%') return;
                place++;
                readOperand(depth);
                emit(-sign);
            }
        }

        private void readOperand(int depth) {
            int sign = next();
            if (isDigit(sign)) {
                readNumber();
            } else if (isName(sign)) {
                place++;
                emit(-sign);
            } else if (depth < DEEPEST && (sign == '(' || sign == '!' || sign == '-')) {
                readOpened(sign, depth + 1);
            } else {
                fail();
            }
        }

        private void readOpened(int sign, int depth) {
            place++;
            if (sign == '(') {
                readEither(depth);
                if (!takes(')')) fail();
            } else {
                readOperand(depth);
                emit(sign == '!' ? -'!' : NEGATE);
            }
        }

        private void readNumber() {
            int number = 0;
            for (int digits = 0; digits < 4 && isDigit(next()); digits++) {
                number = number * 10 + next() - '0';
                place++;
            }
            emit(number);
        }

        private static boolean isDigit(int sign) {
            return sign >= '0' && sign <= '9';
        }

        private static boolean isName(int sign) {
            return sign == 'a' || sign == 'b' || sign == 'w' || sign == 't' || sign == 'v';
        }

        /** The byte at hand; -1 at the end or behind a FAULT, so that nothing more is taken. */
        private int next() {
            return fault < 0 && place < length ? tape[place] : -1;
        }

        private boolean takes(int sign) {
            if (next() != sign) return false;
            place++;
            return true;
        }

        private void fail() {
            if (fault < 0) fault = place;
        }

        private void emit(int step) {
            if (fault >= 0 || drafted >= draft.length) return;
            draft[drafted] = step;
            drafted++;
        }

        /** What THE LAW gives by loaves a, b in a VILLAGE v of WORTH w and WANT t. */
        int worked(int a, int b, int w, int t, int v) {
            top = 0;
            boolean skips = false;
            for (int i = 0; i < stepCount; i++) {
                int step = steps[i];
                if (skips) skips = step != END;
                else if (step == END) return pop();
                else if (step == IF) skips = pop() == 0;
                else if (step >= 0) push(step);
                else if (isName(-step)) push(named(-step, a, b, w, t, v));
                else if (step == NEGATE) push(-pop());
                else if (step == -'!') push(pop() == 0 ? 1 : 0);
                else {
                    int right = pop();
                    push(joined(-step, pop(), right));
                }
            }
            return 0;
        }

        private static int named(int name, int a, int b, int w, int t, int v) {
            switch (name) {
                case 'a': return a;
                case 'b': return b;
                case 'w': return w;
                case 't': return t;
                default: return v;
            }
        }

        private static int joined(int sign, int left, int right) {
            switch (sign) {
                case '|': return left != 0 || right != 0 ? 1 : 0;
                case '&': return left != 0 && right != 0 ? 1 : 0;
                case '<': return left < right ? 1 : 0;
                case '=': return left == right ? 1 : 0;
                case '>': return left > right ? 1 : 0;
                case '+': return left + right;
                case '-': return left - right;
                case '*': return left * right;
                case '/': return right == 0 ? 0 : left / right;
                default: return right == 0 ? 0 : left % right;
            }
        }

        private void push(int value) {
            if (top >= STACK) return;
            stack[top] = value;
            top++;
        }

        private int pop() {
            if (top <= 0) return 0;
            top--;
            return stack[top];
        }
    }

    /** VILLAGES, LOAVES, and what each pair of loaves brings BAKER 0 in each VILLAGE. */
    private static final class Town {
        static final int MOST = 5;

        int villages;
        final int[] worth;
        final int[] want;
        final int[] ties;
        final int[] loaves;
        // By 100 VILLAGE, 10 a and b; of a VILLAGE that is not settled they are out of date.
        final int[] points;
        private final boolean[] settled;
        private final Law text;

        Town(Law law) {
            worth = new int[MOST];
            want = new int[MOST];
            ties = new int[MOST];
            loaves = new int[] {6, 6};
            points = new int[MOST * 100];
            settled = new boolean[MOST];
            text = law;
        }

        /** A new VILLAGE's number; there is room for it. */
        int found(int worthOf, int wantOf, int tiesOf) {
            if (villages >= MOST) return FULL;
            worth[villages] = worthOf;
            want[villages] = wantOf;
            ties[villages] = tiesOf;
            villages++;
            return villages - 1;
        }

        boolean isVillage(int number) {
            return number >= 0 && number < villages;
        }

        /** Whether what (0 LOAVES of a BAKER, 1 WORTH, 2 WANT of a VILLAGE) of a number may be v. */
        boolean mayBecome(int number, int what, int v) {
            if (v < 0 || v > 9) return false;
            switch (what) {
                case 0: return isBaker(number);
                case 1: return isVillage(number) && v >= 1;
                case 2: return isVillage(number);
                default: return false;
            }
        }

        int valueOf(int number, int what) {
            return what == 0 ? loaves[number] : what == 1 ? worth[number] : want[number];
        }

        void become(int number, int what, int v) {
            if (!mayBecome(number, what, v)) return;
            if (what == 0) {
                loaves[number] = v;
                return;
            }
            if (what == 1) worth[number] = v;
            else want[number] = v;
            settled[number] = false;
        }

        void forget() {
            for (int v = 0; v < MOST; v++) settled[v] = false;
        }

        /** Brings points up to date. */
        void settle() {
            for (int v = 0; v < villages; v++) {
                if (settled[v]) continue;
                for (int ab = 0; ab < 100; ab++) points[v * 100 + ab] = judged(v, ab / 10, ab % 10);
                settled[v] = true;
            }
        }

        /** WORTH of a VILLAGE if BAKER 0 has it by a and b, -WORTH if BAKER 1, else 0. */
        int judged(int v, int a, int b) {
            int sign = text.isTold() ? text.worked(a, b, worth[v], want[v], v) : custom(v, a, b);
            return sign > 0 ? worth[v] : sign < 0 ? -worth[v] : 0;
        }

        private int custom(int v, int a, int b) {
            if (Math.max(a, b) < want[v]) return 0;
            if (a != b) return a > b ? 1 : -1;
            return ties[v] == 0 ? 1 : ties[v] == 1 ? -1 : 0;
        }

        /** Whether a number is a PARTING of a BAKER; its loaves by VILLAGES come into a row then. */
        boolean read(int number, int baker, int[] into) {
            if (number < 0) return false;
            Arrays.fill(into, 0);
            int left = number;
            int sum = 0;
            for (int v = villages - 1; v >= 0; v--) {
                into[v] = left % 10;
                sum += into[v];
                left /= 10;
            }
            return left == 0 && sum <= loaves[baker];
        }

        /** The number of the PARTING whose loaves stand in a row from a place on. */
        int numberOf(int[] parting, int from) {
            int number = 0;
            for (int v = 0; v < villages; v++) number = number * 10 + parting[from + v];
            return number;
        }

        int scoreOf(int[] a, int[] b) {
            int sum = 0;
            for (int v = 0; v < villages; v++) sum += points[v * 100 + a[v] * 10 + b[v]];
            return sum;
        }

        /** How many PARTINGS use up all LOAVES of a BAKER. */
        int fullPartings(int baker) {
            if (villages == 0) return loaves[baker] == 0 ? 1 : 0;
            int ways = 1;
            for (int i = 1; i < villages; i++) ways = ways * (loaves[baker] + i) / i;
            return ways;
        }
    }

    /** The PARTINGS with WEIGHTS of a BAKER. */
    private static final class Mix {
        static final int MOST = 8;

        int size;
        private final int[] weights;
        private final int[] loaves;

        Mix() {
            weights = new int[MOST];
            loaves = new int[MOST * Town.MOST];
        }

        boolean add(int[] parting, int weight) {
            if (size >= MOST) return false;
            System.arraycopy(parting, 0, loaves, size * Town.MOST, Town.MOST);
            weights[size] = weight;
            size++;
            return true;
        }

        void copy(Mix other) {
            size = other.size;
            System.arraycopy(other.weights, 0, weights, 0, MOST);
            System.arraycopy(other.loaves, 0, loaves, 0, MOST * Town.MOST);
        }

        int weight() {
            int sum = 0;
            for (int i = 0; i < size; i++) sum += weights[i];
            return sum;
        }

        // Without PARTINGS it counts as one of nothing, of WEIGHT 1: so count the next four.

        int whole() {
            return size == 0 ? 1 : weight();
        }

        int lines() {
            return size == 0 ? 1 : size;
        }

        int weightAt(int i) {
            return size == 0 ? 1 : weights[i];
        }

        int loavesAt(int i, int village) {
            return size == 0 ? 0 : loaves[i * Town.MOST + village];
        }
    }

    /** What so many loaves gain in each VILLAGE, and by which PARTING they gain most in all. */
    private static final class Plan {
        private static final int NEVER = -1000000;

        // By 10 VILLAGE and loaves.
        final int[] gain;
        // By 10 VILLAGE and loaves left: the most from this VILLAGE on.
        private final int[] most;

        Plan() {
            gain = new int[Town.MOST * 10];
            most = new int[(Town.MOST + 1) * 10];
        }

        /** The most that n loaves gain, all used up or not. */
        int solve(int villages, int n, boolean all) {
            for (int left = 0; left <= n; left++) most[villages * 10 + left] = all && left > 0 ? NEVER : 0;
            for (int v = villages - 1; v >= 0; v--) {
                for (int left = 0; left <= n; left++) most[v * 10 + left] = mostFrom(v, left);
            }
            return most[n];
        }

        private int mostFrom(int v, int left) {
            int highest = NEVER;
            for (int x = 0; x <= left; x++) highest = Math.max(highest, with(v, left, x));
            return highest;
        }

        private int with(int v, int left, int x) {
            return gain[v * 10 + x] + most[(v + 1) * 10 + left - x];
        }

        /** The least PARTING that gains as solve() has answered. */
        void choose(int villages, int n, int[] into) {
            int left = n;
            for (int v = 0; v < villages; v++) {
                int x = 0;
                while (x < left && with(v, left, x) != most[v * 10 + left]) x++;
                into[v] = x;
                left -= x;
            }
        }
    }

    /** MEANS, and PARTINGS against a MIX. */
    private static final class Trade {
        private final Town town;
        private final Mix[] mixOf;
        private final Plan plan;
        private final int[] chosen;

        Trade(Town where, Mix[] mixes) {
            town = where;
            mixOf = mixes;
            plan = new Plan();
            chosen = new int[Town.MOST];
        }

        int bestOf(int baker) {
            int loaves = town.loaves[baker];
            earned(baker, loaves);
            plan.choose(town.villages, loaves, chosen);
            return town.numberOf(chosen, 0);
        }

        /** The most that a BAKER has with n LOAVES against the other's MIX, times its WEIGHTS. */
        int earned(int baker, int n) {
            town.settle();
            Mix other = mixOf[1 - baker];
            Arrays.fill(plan.gain, 0);
            for (int i = 0; i < other.lines(); i++) addGains(baker, other, i);
            return plan.solve(town.villages, n, false);
        }

        private void addGains(int baker, Mix other, int i) {
            for (int v = 0; v < town.villages; v++) {
                int sent = other.loavesAt(i, v);
                for (int x = 0; x <= 9; x++) {
                    int points = baker == 0
                        ? town.points[v * 100 + x * 10 + sent] : -town.points[v * 100 + sent * 10 + x];
                    plan.gain[v * 10 + x] += other.weightAt(i) * points;
                }
            }
        }

        /** By how much BAKER 0 has more with a SPY in a VILLAGE, times WEIGHTS of BAKER 1. */
        int heard(int village) {
            int deaf = earned(0, town.loaves[0]);
            Mix other = mixOf[1];
            int sum = 0;
            for (int sent = 0; sent <= 9; sent++) {
                Arrays.fill(plan.gain, 0);
                for (int i = 0; i < other.lines(); i++) {
                    if (other.loavesAt(i, village) == sent) addGains(0, other, i);
                }
                sum += plan.solve(town.villages, town.loaves[0], false);
            }
            return sum - deaf;
        }

        /** Sum of SCORES by WEIGHTS, times twelve, if each cart of BAKER 0 breaks down in c of twelve. */
        long weighted(int c) {
            town.settle();
            long sum = 0;
            for (int i = 0; i < mixOf[0].lines(); i++) {
                for (int j = 0; j < mixOf[1].lines(); j++) {
                    sum += (long) mixOf[0].weightAt(i) * mixOf[1].weightAt(j) * twelveDays(i, j, c);
                }
            }
            return sum;
        }

        // Carts break down each by itself, but a sum's mean needs only each one's own chance.
        private int twelveDays(int i, int j, int c) {
            int sum = 0;
            for (int v = 0; v < town.villages; v++) {
                int from = v * 100 + mixOf[1].loavesAt(j, v);
                sum += (TWELVE - c) * town.points[from + 10 * mixOf[0].loavesAt(i, v)];
                sum += c * town.points[from];
            }
            return sum;
        }
    }

    /** Goes through the PARTINGS that use up n loaves, by their numbers. */
    private static final class Walk {
        final int[] loaves;
        private int villages;

        Walk() {
            loaves = new int[Town.MOST];
        }

        /** Whether there is a first one. */
        boolean start(int villageCount, int n) {
            villages = villageCount;
            Arrays.fill(loaves, 0);
            if (villages == 0) return n == 0;
            loaves[villages - 1] = n;
            return true;
        }

        /** Whether there is a next one: one loaf of the last VILLAGE that has any goes one ahead, the rest last. */
        boolean step() {
            int last = villages - 1;
            while (last > 0 && loaves[last] == 0) last--;
            if (last <= 0) return false;
            int rest = loaves[last] - 1;
            loaves[last] = 0;
            loaves[last - 1]++;
            loaves[villages - 1] = rest;
            return true;
        }
    }

    /** All PARTINGS that use up all LOAVES, against one another. */
    private static final class Duels {
        static final int MOST = 300;
        private static final int WORDS = 5;
        private static final int NEVER = 99;

        int mostNumber;
        int mostCount;
        int restScore;
        final int[] restAt;
        private final Town town;
        private final Walk walk;
        private final Plan plan;
        private final int[] size;
        // Loaves by BAKER, then PARTING and VILLAGE.
        private final int[][] list;
        private final int[] ringAt;
        // Bits by PARTING: those that it beats, those that beat it.
        private final long[] winsOver;
        private final long[] losesTo;
        // By 10 VILLAGE and loaves of BAKER 0: the fewest of BAKER 1 by which BAKER 0 does not have it.
        private final int[] cost;

        Duels(Town where) {
            town = where;
            walk = new Walk();
            plan = new Plan();
            size = new int[2];
            list = new int[2][MOST * Town.MOST];
            ringAt = new int[3];
            restAt = new int[2];
            winsOver = new long[MOST * WORDS];
            losesTo = new long[MOST * WORDS];
            cost = new int[Town.MOST * 10];
        }

        boolean mayList() {
            for (int baker = 0; baker < 2; baker++) {
                int ways = town.fullPartings(baker);
                if (ways > MOST || ways == 0) return false;
            }
            return true;
        }

        /** Lists both BAKERS' PARTINGS, if that may be. */
        boolean open() {
            if (!mayList()) return false;
            town.settle();
            writeList(0);
            writeList(1);
            return true;
        }

        private void writeList(int baker) {
            size[baker] = 0;
            boolean more = walk.start(town.villages, town.loaves[baker]);
            for (int i = 0; i < MOST && more; i++) {
                System.arraycopy(walk.loaves, 0, list[baker], i * Town.MOST, Town.MOST);
                size[baker]++;
                more = walk.step();
            }
        }

        int numberAt(int baker, int i) {
            return town.numberOf(list[baker], i * Town.MOST);
        }

        /** By how many of the other's the PARTING at a place of a row is beaten; counted up to a limit. */
        int losses(int baker, int[] row, int from, int limit) {
            int[] others = list[1 - baker];
            int lost = 0;
            for (int j = 0; j < size[1 - baker] && lost < limit; j++) {
                int score = baker == 0 ? duel(row, from, others, j * Town.MOST) : -duel(others, j * Town.MOST, row, from);
                if (score < 0) lost++;
            }
            return lost;
        }

        /** SCORE of the PARTING of BAKER 0 at a place of a row and one of BAKER 1. */
        private int duel(int[] row, int from, int[] other, int at) {
            int sum = 0;
            for (int v = 0; v < town.villages; v++) {
                sum += town.points[v * 100 + row[from + v] * 10 + other[at + v]];
            }
            return sum;
        }

        int safe(int baker, int what) {
            int least = MOST + 1;
            int at = 0;
            for (int i = 0; i < size[baker]; i++) {
                int lost = losses(baker, list[baker], i * Town.MOST, least);
                if (lost < least) {
                    least = lost;
                    at = i;
                }
            }
            return what == 0 ? numberAt(baker, at) : least;
        }

        int ringPart(int k) {
            return numberAt(0, ringAt[k]);
        }

        boolean findRing() {
            matchOwn();
            for (int p = 0; p < size[0]; p++) {
                for (int q = p + 1; q < size[0]; q++) {
                    if (!hasBit(winsOver, p, q)) continue;
                    int r = third(p, q);
                    if (r < 0) continue;
                    ringAt[0] = p;
                    ringAt[1] = q;
                    ringAt[2] = r;
                    return true;
                }
            }
            return false;
        }

        /** Which of BAKER 0's beat which of them. */
        private void matchOwn() {
            Arrays.fill(winsOver, 0);
            Arrays.fill(losesTo, 0);
            for (int p = 0; p < size[0]; p++) {
                for (int q = 0; q < size[0]; q++) {
                    if (duel(list[0], p * Town.MOST, list[0], q * Town.MOST) <= 0) continue;
                    winsOver[p * WORDS + q / 64] |= 1L << (q % 64);
                    losesTo[q * WORDS + p / 64] |= 1L << (p % 64);
                }
            }
        }

        private static boolean hasBit(long[] rows, int i, int j) {
            return (rows[i * WORDS + j / 64] >>> (j % 64) & 1) != 0;
        }

        /** The first above p, but q, that q beats and that beats p; -1: none. */
        private int third(int p, int q) {
            for (int word = 0; word < WORDS; word++) {
                if ((winsOver[q * WORDS + word] & losesTo[p * WORDS + word]) == 0) continue;
                int end = Math.min(size[0], word * 64 + 64);
                for (int r = Math.max(p + 1, word * 64); r < end; r++) {
                    if (r != q && hasBit(winsOver, q, r) && hasBit(losesTo, p, r)) return r;
                }
            }
            return -1;
        }

        /**
         * Pairs at rest are those of a PARTING of BAKER 0 whose worst is highest and one of
         * BAKER 1 whose worst (for it) is lowest, if both are the same; so the first of each do.
         */
        boolean findRest() {
            int held = firstGuard(0);
            int held1 = firstGuard(1);
            restScore = held;
            return held == -held1;
        }

        /** The most that a BAKER has whatever the other sends; its first PARTING for it goes to restAt. */
        private int firstGuard(int baker) {
            int highest = Plan.NEVER;
            for (int i = 0; i < size[baker]; i++) {
                int worst = worst(baker, i);
                if (worst <= highest) continue;
                highest = worst;
                restAt[baker] = i;
            }
            return highest;
        }

        private int worst(int baker, int i) {
            for (int v = 0; v < town.villages; v++) {
                int own = list[baker][i * Town.MOST + v];
                for (int x = 0; x <= 9; x++) {
                    plan.gain[v * 10 + x] = baker == 0
                        ? -town.points[v * 100 + own * 10 + x] : town.points[v * 100 + x * 10 + own];
                }
            }
            return -plan.solve(town.villages, town.loaves[1 - baker], true);
        }

        /** Makes ready for surely() and findMost(). */
        void costs() {
            town.settle();
            for (int v = 0; v < town.villages; v++) {
                for (int a = 0; a <= 9; a++) {
                    int b = 0;
                    while (b <= 9 && town.points[v * 100 + a * 10 + b] > 0) b++;
                    cost[v * 10 + a] = b <= 9 ? b : NEVER;
                }
            }
        }

        /** SURE: BAKER 1 takes VILLAGES away by the fewest loaves each, the cheapest first. */
        int surely(int[] parting) {
            int left = town.loaves[1];
            int held = town.villages;
            for (int price = 0; price <= 9; price++) {
                for (int v = 0; v < town.villages && price <= left; v++) {
                    if (cost[v * 10 + parting[v]] != price) continue;
                    left -= price;
                    held--;
                }
            }
            return held;
        }

        /** MOST with n LOAVES; false: no PARTING uses them up. */
        boolean findMost(int n) {
            boolean more = walk.start(town.villages, n);
            if (!more) return false;
            mostCount = -1;
            for (int turn = 0; turn < 1000 && more; turn++) {
                int held = surely(walk.loaves);
                if (held > mostCount) {
                    mostCount = held;
                    mostNumber = town.numberOf(walk.loaves, 0);
                }
                more = walk.step();
            }
            return true;
        }
    }

    /** YEARS in which each BAKER sends what is best against all that the other has sent. */
    private static final class Course {
        // By BAKER: what it sends in the latest year gone to.
        final int[][] sent;
        private final Town town;
        private final Mix[] mixOf;
        private final Plan[] plans;

        Course(Town where, Mix[] mixes) {
            town = where;
            mixOf = mixes;
            plans = new Plan[] {new Plan(), new Plan()};
            sent = new int[2][Town.MOST];
        }

        /** Goes to a year: the sum of SCORES up to it. */
        int go(int last) {
            town.settle();
            for (int baker = 0; baker < 2; baker++) {
                Arrays.fill(plans[baker].gain, 0);
                for (int v = 0; v < Town.MOST; v++) sent[baker][v] = mixOf[baker].loavesAt(0, v);
            }
            int sum = town.scoreOf(sent[0], sent[1]);
            for (int y = 1; y <= last; y++) {
                learnSent();
                sendBest(0);
                sendBest(1);
                sum += town.scoreOf(sent[0], sent[1]);
            }
            return sum;
        }

        private void learnSent() {
            for (int v = 0; v < town.villages; v++) {
                for (int x = 0; x <= 9; x++) {
                    plans[0].gain[v * 10 + x] += town.points[v * 100 + x * 10 + sent[1][v]];
                    plans[1].gain[v * 10 + x] -= town.points[v * 100 + sent[0][v] * 10 + x];
                }
            }
        }

        private void sendBest(int baker) {
            plans[baker].solve(town.villages, town.loaves[baker], false);
            plans[baker].choose(town.villages, town.loaves[baker], sent[baker]);
        }
    }

    /** CHANGES by mend, for undo and redo. */
    private static final class Changes {
        private static final int MOST = 40;

        // How many are kept, and how many of them, the first ones, are not undone.
        int size;
        int done;
        private final int[] numbers;
        private final int[] whats;
        private final int[] before;
        private final int[] after;

        Changes() {
            numbers = new int[MOST];
            whats = new int[MOST];
            before = new int[MOST];
            after = new int[MOST];
        }

        void note(int number, int what, int was, int becomes) {
            if (done >= MOST) dropFirst();
            numbers[done] = number;
            whats[done] = what;
            before[done] = was;
            after[done] = becomes;
            done++;
            size = done;
        }

        private void dropFirst() {
            System.arraycopy(numbers, 1, numbers, 0, MOST - 1);
            System.arraycopy(whats, 1, whats, 0, MOST - 1);
            System.arraycopy(before, 1, before, 0, MOST - 1);
            System.arraycopy(after, 1, after, 0, MOST - 1);
            done = MOST - 1;
        }

        void takeBack(Town town) {
            if (done <= 0) return;
            done--;
            town.become(numbers[done], whats[done], before[done]);
        }

        void doAgain(Town town) {
            if (done >= size) return;
            town.become(numbers[done], whats[done], after[done]);
            done++;
        }
    }

    /** BODIES, their ACTS, and THE TRACE. */
    private static final class Acts {
        static final int KINDS = 8;
        private static final int MOST = 50, TRACED = 24, DEEPEST = 40;
        private static final int PARTS = 0, SENDS = 1, WINS = 2, LEARNS = 3;
        // The KIND above each; -1: none.
        private static final int[] ABOVE = {-1, 0, 0, 2, 1, 4, 0, 6};
        // By KIND: the numbers of its own bodies of parts, sends, wins, learns; 0: it has none.
        // What the interfaces PARTS and LEARNS have stands with BAKER, which has no such of its own.
        private static final int[] BODIES = {
            1, 10, 11, 2,
            20, 0, 0, 0,
            0, 30, 0, 0,
            0, 41, 40, 0,
            0, 0, 0, 50,
            0, 0, 60, 61,
            70, 0, 0, 0,
            81, 80, 0, 0,
        };

        int size;
        int ran;
        final int[] began;
        private final int[] kinds;
        private int actor;

        Acts() {
            began = new int[TRACED];
            kinds = new int[MOST];
        }

        boolean add(int kind) {
            if (size >= MOST) return false;
            kinds[size] = kind;
            size++;
            return true;
        }

        int kept() {
            return Math.min(ran, TRACED);
        }

        int kindOf(int number) {
            return number >= 0 && number < size ? kinds[number] : -1;
        }

        static boolean isUnder(int kind, int other) {
            int above = kind;
            for (int turn = 0; turn < KINDS && above >= 0; turn++) {
                if (above == other) return true;
                above = ABOVE[above];
            }
            return false;
        }

        int perform(int number, int act, int x) {
            ran = 0;
            if (number < 0 || number >= size || act < PARTS || act > LEARNS) return 0;
            actor = number;
            return own(act, x, 0);
        }

        private int own(int act, int x, int depth) {
            return from(kinds[actor], act, x, depth);
        }

        /** Runs the body of an act of a KIND, or of the next KIND above that has one. */
        private int from(int kind, int act, int x, int depth) {
            int at = kind;
            for (int turn = 0; turn < KINDS && at >= 0; turn++) {
                int found = BODIES[at * 4 + act];
                if (found != 0) return depth < DEEPEST ? run(found, ABOVE[at], x, depth + 1) : 0;
                at = ABOVE[at];
            }
            return 0;
        }

        private int run(int found, int above, int x, int depth) {
            if (ran < TRACED) began[ran] = found;
            ran++;
            switch (found) {
                case 1: return x + actor;
                case 2: return own(SENDS, x, depth) - own(WINS, 1, depth);
                case 10: return own(PARTS, x, depth) * 2;
                case 11: return x ^ actor;
                case 20: return from(above, PARTS, x, depth) + 3;
                case 30: return -from(above, SENDS, x, depth);
                case 40: return from(above, WINS, x, depth) * 3;
                case 41: return from(above, SENDS, x + 1, depth);
                case 50: return from(above, LEARNS, x, depth) ^ 5;
                case 60: return from(above, WINS, x, depth) - own(PARTS, 2, depth);
                case 61: return from(above, LEARNS, x, depth) + 1;
                case 70: return from(above, PARTS, x, depth) * 2;
                case 80: return from(above, SENDS, x, depth) + own(WINS, 2, depth);
                default: return from(above, PARTS, x, depth) - 1;
            }
        }
    }

    /** What one SHELF holds. */
    private static final class Shelf {
        static final int NOTHING = 0, BODY = 1, ROW = 2;
        static final int INTS = 2, BOOLEANS = 4, MOST = 60;

        int holds;
        int body;
        int sort;
        int length;
        final long[] elements;

        Shelf() {
            elements = new long[MOST];
        }

        /** Holds a BODY; -1: nothing. */
        void holdBody(int number) {
            holds = number < 0 ? NOTHING : BODY;
            body = number;
        }

        void holdRow(int sortOf, int n) {
            holds = ROW;
            sort = sortOf;
            length = n;
            Arrays.fill(elements, 0);
        }

        /** Why there is no element i; 0: there is one. */
        int refusal(int i) {
            if (holds == NOTHING) return NOTHING_THERE;
            if (holds != ROW) return OTHER_KIND;
            return i < 0 || i >= length ? NO_PLACE : 0;
        }

        boolean hasRun(int i, int n) {
            return i >= 0 && n >= 0 && i <= length && n <= length - i;
        }

        static long lowest(int sort, long v) {
            switch (sort) {
                case 0: return (byte) v;
                case 1: return (short) v;
                case 2: return (int) v;
                case 3: return v;
                default: return v != 0 ? 1 : 0;
            }
        }
    }
}
