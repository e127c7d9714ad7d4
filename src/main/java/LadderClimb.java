/** Leaning ladders that hold by friction, and people who climb on them. */
public final class LadderClimb {

    public static final int NONE = -1;

    private static final int LADDERS = 4;
    private static final int MOST_PEOPLE = 3;
    private static final int TOP_STEP = 10;
    private static final int KINDS = 4;
    private static final int BARK = 3;
    private static final int LEAST_BASE = 10;
    private static final int MOST_BASE = 100;
    private static final int BASE_STRIDE = 5;
    private static final int LEAST_WEIGHT = 20;
    private static final int MOST_WEIGHT = 150;
    private static final int MOST_ROPE = 200;
    private static final int MOST_FORCE = 1000;
    private static final int MOST_SAVED = 6;
    private static final int MOST_CODES = 60;
    private static final int[] GROUND_PERCENTS = {5, 25, 40, 60};
    private static final int[] WALL_PERCENTS = {0, 20, 45, 60};

    private final Site site;
    private final History history;
    private final Works works;
    /** A copy to try things on, so that a look changes nothing. */
    private final Rig trial;

    public LadderClimb() {
        site = new Site();
        history = new History();
        works = new Works();
        trial = new Rig();
    }

    // ---- ladders

    public int put(int ladder, int base, int height, int weight)
            throws IndexOutOfBoundsException, IllegalArgumentException {
        Rig rig = rigOf(ladder);
        demandRange(base, LEAST_BASE, MOST_BASE);
        demandRange(height, 50, 300);
        demandRange(weight, 1, 100);
        history.save(site);
        rig.base = base;
        rig.height = height;
        rig.weight = weight;
        return site.fallsNow(rig) ? 1 : 0;
    }

    public int kinds(int ladder, int ground, int wall)
            throws IndexOutOfBoundsException, IllegalArgumentException {
        Rig rig = rigOf(ladder);
        demandRange(ground, 0, KINDS - 1);
        demandRange(wall, 0, KINDS - 1);
        history.save(site);
        rig.ground = ground;
        rig.wall = wall;
        return site.fallsNow(rig) ? 1 : 0;
    }

    public int rope(int ladder, int rope) throws IndexOutOfBoundsException, IllegalArgumentException {
        Rig rig = rigOf(ladder);
        demandRange(rope, 0, MOST_ROPE);
        history.save(site);
        rig.rope = rope;
        return site.fallsNow(rig) ? 1 : 0;
    }

    // ---- people

    public int on(int ladder, int weight)
            throws IndexOutOfBoundsException, IllegalArgumentException, IllegalStateException {
        Rig rig = rigOf(ladder);
        demandRange(weight, LEAST_WEIGHT, MOST_WEIGHT);
        if (rig.isFull()) {
            throw new IllegalStateException("the ladder is full");
        }
        history.save(site);
        rig.add(weight);
        site.fallsNow(rig);
        return rig.people;
    }

    public int off(int ladder, int person) throws IndexOutOfBoundsException {
        Rig rig = rigOf(ladder);
        demandPerson(rig, person);
        history.save(site);
        rig.remove(person);
        site.fallsNow(rig);
        return rig.people;
    }

    public int climb(int ladder, int person, int step)
            throws IndexOutOfBoundsException, IllegalArgumentException {
        Rig rig = rigOf(ladder);
        demandPerson(rig, person);
        demandRange(step, 0, TOP_STEP);
        history.save(site);
        return site.walk(rig, person, step);
    }

    // ---- texts

    public int append(int code) throws IllegalArgumentException, IllegalStateException {
        demandRange(code, 33, 126);
        if (works.isFull()) {
            throw new IllegalStateException("the buffer is full");
        }
        works.add(code);
        return works.length;
    }

    public int clearBuffer() {
        int length = works.length;
        works.clear();
        return length;
    }

    public int firstError() {
        return works.firstFault();
    }

    public int play() throws IllegalArgumentException {
        if (!works.isWhole()) {
            throw new IllegalArgumentException("the buffer is not complete works");
        }
        history.save(site);
        works.rewind();
        int done = 0;
        for (int i = 0; i < MOST_CODES && works.nextPart() && playPart(works.reader); i++) {
            done++;
        }
        works.clear();
        return done;
    }

    public int undo() throws IllegalStateException {
        if (history.size == 0) {
            throw new IllegalStateException("nothing is saved");
        }
        history.restoreTo(site);
        return history.size;
    }

    // ---- looks; nothing is changed

    public int ladder(int ladder, int what) throws IndexOutOfBoundsException, IllegalArgumentException {
        Rig rig = rigOf(ladder);
        switch (what) {
            case 0: return rig.base;
            case 1: return rig.height;
            case 2: return rig.weight;
            case 3: return rig.ground;
            case 4: return rig.wall;
            case 5: return rig.rope;
            case 6: return rig.people;
            case 7: return rig.load();
            case 8: return rig.moment();
            case 9: return rig.falls;
            case 10: return rig.stands() ? 1 : 0;
            default: throw new IllegalArgumentException("a ladder has the numbers 0 to 10");
        }
    }

    public int person(int ladder, int person, int what)
            throws IndexOutOfBoundsException, IllegalArgumentException {
        Rig rig = rigOf(ladder);
        demandPerson(rig, person);
        switch (what) {
            case 0: return rig.weightOf(person);
            case 1: return rig.stepOf(person);
            default: throw new IllegalArgumentException("a person has the numbers 0 and 1");
        }
    }

    public int force(int ladder, int what) throws IndexOutOfBoundsException, IllegalArgumentException {
        Rig rig = rigOf(ladder);
        demandRange(what, 0, 5);
        if (what == 2) {
            return rig.forces();
        }
        if (!rig.stands()) {
            return NONE;
        }
        switch (what) {
            case 0: return rig.leastForce() + MOST_FORCE;
            case 1: return rig.greatestForce() + MOST_FORCE;
            case 3: return rig.nearestForce() + MOST_FORCE;
            case 4: return rig.push(rig.nearestForce());
            default: return rig.load() - rig.nearestForce();
        }
    }

    public int held(int ladder, int f) throws IndexOutOfBoundsException, IllegalArgumentException {
        Rig rig = rigOf(ladder);
        demandRange(f, -MOST_FORCE, MOST_FORCE);
        return rig.whatGivesWay(f);
    }

    public int count(int what) throws IllegalArgumentException {
        switch (what) {
            case 0: return site.standing();
            case 1: return site.people();
            case 2: return site.falls();
            case 3: return site.fallen;
            case 4: return site.climbed;
            case 5: return history.size;
            default: throw new IllegalArgumentException("there are the counts 0 to 5");
        }
    }

    // ---- what would be; nothing is changed

    public int highest(int ladder, int person) throws IndexOutOfBoundsException {
        Rig rig = rigOf(ladder);
        demandPerson(rig, person);
        trial.copyFrom(rig);
        int reached = rig.stepOf(person);
        for (int step = reached + 1; step <= TOP_STEP; step++) {
            trial.setStep(person, step);
            if (!trial.stands()) {
                return reached;
            }
            reached = step;
        }
        return reached;
    }

    public int neededRope(int ladder) throws IndexOutOfBoundsException {
        trial.copyFrom(rigOf(ladder));
        for (int rope = 0; rope <= MOST_ROPE; rope++) {
            trial.rope = rope;
            if (trial.stands()) {
                return rope;
            }
        }
        return NONE;
    }

    public int bestBase(int ladder) throws IndexOutOfBoundsException {
        trial.copyFrom(rigOf(ladder));
        int best = NONE;
        int most = 0;
        for (int base = LEAST_BASE; base <= MOST_BASE; base += BASE_STRIDE) {
            trial.base = base;
            int forces = trial.forces();
            if (forces > most) {
                best = base;
                most = forces;
            }
        }
        return best;
    }

    public int riskiest(int ladder) throws IndexOutOfBoundsException {
        Rig rig = rigOf(ladder);
        int worst = NONE;
        int most = 0;
        for (int person = 0; person < rig.people; person++) {
            trial.copyFrom(rig);
            trial.remove(person);
            int forces = trial.forces();
            if (worst == NONE || forces > most) {
                worst = person;
                most = forces;
            }
        }
        return worst;
    }

    public int walls(int ladder) throws IndexOutOfBoundsException {
        trial.copyFrom(rigOf(ladder));
        int mask = 0;
        for (int kind = 0; kind < KINDS; kind++) {
            trial.wall = kind;
            if (trial.stands()) {
                mask |= 1 << kind;
            }
        }
        return mask;
    }

    public double safety() {
        int people = site.people();
        int all = people + site.fallen;
        return all == 0 ? 1.0 : (double) people / (double) all;
    }

    public long digest() {
        long hash = 3617L;
        for (int what = 0; what <= 5; what++) {
            hash = mix(hash, count(what));
        }
        for (int ladder = 0; ladder < LADDERS; ladder++) {
            hash = mixLadder(hash, ladder);
        }
        for (int f = -10; f <= 10; f += 10) {
            hash = mix(hash, held(0, f));
        }
        hash = mix(hash, bitsOf(safety()));
        hash = mix(hash, works.length);
        for (int i = 0; i < works.length; i++) {
            hash = mix(hash, works.codeAt(i));
        }
        return hash;
    }

    // ---- helpers of the digest

    private long mixLadder(long before, int ladder) {
        long hash = before;
        for (int what = 0; what <= 10; what++) {
            hash = mix(hash, ladder(ladder, what));
        }
        for (int what = 0; what <= 5; what++) {
            hash = mix(hash, force(ladder, what));
        }
        int people = ladder(ladder, 6);
        for (int person = 0; person < people; person++) {
            hash = mix(hash, person(ladder, person, 0));
            hash = mix(hash, person(ladder, person, 1));
            hash = mix(hash, highest(ladder, person));
        }
        hash = mix(hash, neededRope(ladder));
        hash = mix(hash, bestBase(ladder));
        hash = mix(hash, riskiest(ladder));
        return mix(hash, walls(ladder));
    }

    private static long mix(long hash, long value) {
        return 31L * hash + value;
    }

    /** The bits of a double of 0 to 1; the language has no library call for them. */
    private static long bitsOf(double share) {
        if (share <= 0.0) {
            return 0L;
        }
        double scaled = share;
        long exponent = 1023L;
        for (int i = 0; i < 1022 && scaled < 1.0; i++) {
            scaled = scaled * 2.0;
            exponent--;
        }
        long fraction = (long) ((scaled - 1.0) * (double) (1L << 52));
        return (exponent << 52) + fraction;
    }

    // ---- helpers of the texts

    /** Does one part and answers true, or answers false if it is not possible. */
    private boolean playPart(Reader part) {
        Rig rig = rigOf(part.ladder);
        switch (part.work) {
            case 'u':
                if (rig.people == 0) {
                    return false;
                }
                site.walk(rig, 0, part.number);
                return true;
            case 'o':
                if (rig.isFull()) {
                    return false;
                }
                rig.add(part.number);
                break;
            case 'r':
                rig.rope = part.number;
                break;
            default:
                if (rig.people == 0) {
                    return false;
                }
                rig.remove(rig.people - 1);
                break;
        }
        site.fallsNow(rig);
        return true;
    }

    // ---- what arguments must be

    private Rig rigOf(int ladder) {
        if (ladder < 0 || ladder >= LADDERS) {
            throw new IndexOutOfBoundsException("no such ladder");
        }
        return site.rigs[ladder];
    }

    private static void demandPerson(Rig rig, int person) {
        if (!rig.bears(person)) {
            throw new IndexOutOfBoundsException("no such person");
        }
    }

    private static void demandRange(int value, int least, int most) {
        if (value < least || value > most) {
            throw new IllegalArgumentException("out of range");
        }
    }

    /** One ladder, and the people on it. */
    private static final class Rig {

        int base = 50;
        int height = 150;
        int weight = 20;
        int ground = 2;
        int wall = 2;
        int rope = 0;
        int falls = 0;
        int people = 0;
        /** Places where nobody is hold 0, so that sums may go over all places. */
        private final int[] weights = new int[MOST_PEOPLE];
        private final int[] steps = new int[MOST_PEOPLE];

        void copyFrom(Rig other) {
            base = other.base;
            height = other.height;
            weight = other.weight;
            ground = other.ground;
            wall = other.wall;
            rope = other.rope;
            falls = other.falls;
            people = other.people;
            for (int i = 0; i < MOST_PEOPLE; i++) {
                weights[i] = other.weights[i];
                steps[i] = other.steps[i];
            }
        }

        boolean isFull() {
            return people >= MOST_PEOPLE;
        }

        boolean bears(int person) {
            return person >= 0 && person < people && person < MOST_PEOPLE;
        }

        int weightOf(int person) {
            return bears(person) ? weights[person] : 0;
        }

        int stepOf(int person) {
            return bears(person) ? steps[person] : 0;
        }

        void setStep(int person, int step) {
            if (bears(person)) {
                steps[person] = step;
            }
        }

        void add(int newWeight) {
            if (people >= 0 && people < MOST_PEOPLE) {
                weights[people] = newWeight;
                steps[people] = 0;
                people++;
            }
        }

        void remove(int person) {
            if (!bears(person)) {
                return;
            }
            for (int i = person; i < MOST_PEOPLE - 1; i++) {
                weights[i] = weights[i + 1];
                steps[i] = steps[i + 1];
            }
            weights[MOST_PEOPLE - 1] = 0;
            steps[MOST_PEOPLE - 1] = 0;
            people--;
        }

        void removeAll() {
            for (int i = 0; i < MOST_PEOPLE; i++) {
                weights[i] = 0;
                steps[i] = 0;
            }
            people = 0;
        }

        int load() {
            int sum = weight;
            for (int i = 0; i < MOST_PEOPLE; i++) {
                sum += weights[i];
            }
            return sum;
        }

        int moment() {
            int sum = 5 * weight;
            for (int i = 0; i < MOST_PEOPLE; i++) {
                sum += steps[i] * weights[i];
            }
            return base * sum;
        }

        int push(int f) {
            return moment() - 10 * f * base;
        }

        int whatGivesWay(int f) {
            int push = push(f);
            int load = load();
            int mask = push < 0 ? 1 : 0;
            if (1000 * height * Math.abs(f) > wallPercents() * push || (wall == BARK && f < 0)) {
                mask |= 2;
            }
            if (f > load) {
                mask |= 4;
            }
            if (100 * push > 10 * height * (groundPercents() * (load - f) + 100 * rope)) {
                mask |= 8;
            }
            return mask;
        }

        boolean stands() {
            return leastForce() <= greatestForce();
        }

        /**
         * How many f hold the ladder. Each condition is a straight line in f on either
         * side of 0, and the wall's bends at 0 the right way, so these f are all those
         * from leastForce() to greatestForce(): no search is needed.
         */
        int forces() {
            return Math.max(0, greatestForce() - leastForce() + 1);
        }

        int nearestForce() {
            return Math.max(leastForce(), Math.min(0, greatestForce()));
        }

        int leastForce() {
            return Math.max(-MOST_FORCE, Math.max(leastByWall(), leastByGround()));
        }

        /**
         * For f of 0 or more the wall asks (1000 height + 10 base percents) f <= percents moment.
         * Nothing else bounds f from above: nobody stands higher than the step 10, so the
         * moment is at most 10 base load, and such an f is below the load, with a push of
         * 0 or more and, where the ground's slope is not below 0, with a ground that holds.
         */
        int greatestForce() {
            int percents = wallPercents();
            int divisor = 1000 * height + 10 * base * percents;
            return divisor > 0 ? Math.floorDiv(percents * moment(), divisor) : 0;
        }

        /** For f below 0 the wall asks (1000 height - 10 base percents) (-f) <= percents moment. */
        private int leastByWall() {
            if (wall == BARK) {
                return 0;
            }
            int percents = wallPercents();
            int divisor = 1000 * height - 10 * base * percents;
            return divisor > 0 ? -Math.floorDiv(percents * moment(), divisor) : -MOST_FORCE;
        }

        /** The ground asks slope f <= room. */
        private int leastByGround() {
            int slope = 10 * height * groundPercents() - 1000 * base;
            int room = 10 * height * (groundPercents() * load() + 100 * rope) - 100 * moment();
            return slope < 0 ? -Math.floorDiv(room, -slope) : -MOST_FORCE;
        }

        private int groundPercents() {
            return ground >= 0 && ground < GROUND_PERCENTS.length ? GROUND_PERCENTS[ground] : 0;
        }

        private int wallPercents() {
            return wall >= 0 && wall < WALL_PERCENTS.length ? WALL_PERCENTS[wall] : 0;
        }
    }

    /** All that undo restores: the ladders and what is counted. */
    private static final class Site {

        final Rig[] rigs = new Rig[LADDERS];
        int fallen = 0;
        int climbed = 0;

        Site() {
            for (int i = 0; i < LADDERS; i++) {
                rigs[i] = new Rig();
            }
        }

        void copyFrom(Site other) {
            for (int i = 0; i < LADDERS; i++) {
                rigs[i].copyFrom(other.rigs[i]);
            }
            fallen = other.fallen;
            climbed = other.climbed;
        }

        int standing() {
            int sum = 0;
            for (int i = 0; i < LADDERS; i++) {
                if (rigs[i].stands()) {
                    sum++;
                }
            }
            return sum;
        }

        int people() {
            int sum = 0;
            for (int i = 0; i < LADDERS; i++) {
                sum += rigs[i].people;
            }
            return sum;
        }

        int falls() {
            int sum = 0;
            for (int i = 0; i < LADDERS; i++) {
                sum += rigs[i].falls;
            }
            return sum;
        }

        /** Lets a ladder fall if it has people and slips; tells whether it fell. */
        boolean fallsNow(Rig rig) {
            if (rig.people == 0 || rig.stands()) {
                return false;
            }
            fall(rig);
            return true;
        }

        private void fall(Rig rig) {
            fallen += rig.people;
            rig.falls++;
            rig.removeAll();
        }

        /** Lets someone climb; answers the step then, or NONE if the ladder fell on the way. */
        int walk(Rig rig, int person, int step) {
            int from = rig.stepOf(person);
            int way = step < from ? -1 : 1;
            int length = Math.abs(step - from);
            for (int i = 1; i <= length; i++) {
                rig.setStep(person, from + i * way);
                climbed++;
                if (!rig.stands()) {
                    fall(rig);
                    return NONE;
                }
            }
            return step;
        }
    }

    /** The latest states, in a ring whose rows are used again. */
    private static final class History {

        private final Site[] saved = new Site[MOST_SAVED];
        private int next = 0;
        int size = 0;

        History() {
            for (int i = 0; i < MOST_SAVED; i++) {
                saved[i] = new Site();
            }
        }

        void save(Site site) {
            if (next < 0 || next >= MOST_SAVED) {
                return;
            }
            saved[next].copyFrom(site);
            next = next + 1 < MOST_SAVED ? next + 1 : 0;
            size = Math.min(size + 1, MOST_SAVED);
        }

        void restoreTo(Site site) {
            int latest = next > 0 ? next - 1 : MOST_SAVED - 1;
            if (size <= 0 || latest >= MOST_SAVED) {
                return;
            }
            site.copyFrom(saved[latest]);
            next = latest;
            size--;
        }
    }

    /** The buffer, and the place up to which it has been played. */
    private static final class Works {

        private final int[] codes = new int[MOST_CODES];
        int length = 0;
        private int cursor = 0;
        final Reader reader = new Reader();

        boolean isFull() {
            return length >= MOST_CODES;
        }

        void add(int code) {
            if (length >= 0 && length < MOST_CODES) {
                codes[length] = code;
                length++;
            }
        }

        void clear() {
            length = 0;
        }

        int codeAt(int index) {
            return index >= 0 && index < length && index < MOST_CODES ? codes[index] : 0;
        }

        int firstFault() {
            reader.startPart();
            for (int i = 0; i < length; i++) {
                if (!reader.takes(codeAt(i))) {
                    return i;
                }
            }
            return length;
        }

        boolean isWhole() {
            return firstFault() == length && reader.isPartWhole();
        }

        void rewind() {
            cursor = 0;
        }

        /** Reads the part at the cursor; answers false behind the last one. */
        boolean nextPart() {
            if (cursor >= length) {
                return false;
            }
            reader.startPart();
            while (cursor < length) {
                int code = codeAt(cursor);
                cursor++;
                if (code == ';') {
                    return true;
                }
                reader.takes(code);
            }
            return true;
        }
    }

    /** Reads works as a text, character by character; holds the part that it reads. */
    private static final class Reader {

        private static final int AT_LADDER = 0;
        private static final int AT_WORK = 1;
        private static final int AT_FIRST_DIGIT = 2;
        private static final int AT_LATER_DIGIT = 3;
        private static final int AT_END = 4;

        private int place = AT_LADDER;
        private int least = 0;
        private int most = 0;
        int ladder = 0;
        int work = 0;
        int number = 0;

        void startPart() {
            place = AT_LADDER;
            number = 0;
        }

        boolean isPartWhole() {
            return place == AT_END || (place == AT_LATER_DIGIT && number >= least && number <= most);
        }

        /** Answers false if the character is a syntax error. */
        boolean takes(int code) {
            switch (place) {
                case AT_LADDER:
                    return takesLadder(code);
                case AT_WORK:
                    return takesWork(code);
                case AT_FIRST_DIGIT:
                    return takesDigit(code);
                case AT_LATER_DIGIT:
                    return code == ';' ? takesSemicolon() : number != 0 && takesDigit(code);
                default:
                    return code == ';' && takesSemicolon();
            }
        }

        private boolean takesLadder(int code) {
            if (code < '0' || code >= '0' + LADDERS) {
                return false;
            }
            ladder = code - '0';
            place = AT_WORK;
            return true;
        }

        private boolean takesWork(int code) {
            switch (code) {
                case 'u':
                    return startNumber(code, 0, TOP_STEP);
                case 'o':
                    return startNumber(code, LEAST_WEIGHT, MOST_WEIGHT);
                case 'r':
                    return startNumber(code, 0, MOST_ROPE);
                case 'x':
                    work = code;
                    place = AT_END;
                    return true;
                default:
                    return false;
            }
        }

        private boolean startNumber(int code, int from, int to) {
            work = code;
            least = from;
            most = to;
            place = AT_FIRST_DIGIT;
            return true;
        }

        private boolean takesDigit(int code) {
            if (code < '0' || code > '9') {
                return false;
            }
            int longer = 10 * number + code - '0';
            if (!canBecomeNumber(longer)) {
                return false;
            }
            number = longer;
            place = AT_LATER_DIGIT;
            return true;
        }

        /** Whether a number in range begins with these digits; none has more than three. */
        private boolean canBecomeNumber(int digits) {
            int low = digits;
            int high = digits;
            for (int i = 0; i < 3; i++) {
                if (low <= most && high >= least) {
                    return true;
                }
                if (digits == 0) {
                    return false;
                }
                low = 10 * low;
                high = 10 * high + 9;
            }
            return false;
        }

        private boolean takesSemicolon() {
            if (!isPartWhole()) {
                return false;
            }
            startPart();
            return true;
        }
    }
}
