import java.util.ArrayList;
import java.util.List;
import java.util.regex.Matcher;
import java.util.regex.Pattern;

/**
 * The document once more, as plainly as it can be told: every f is tried, every state is
 * copied whole, and the text is a regular expression. ModelTest holds LadderClimb against it.
 */
final class Model {

    private static final int[] GROUND = {5, 25, 40, 60};
    private static final int[] WALL = {0, 20, 45, 60};
    private static final Pattern PART = Pattern.compile(
            "[0-3](u(10|[0-9])|o(1[0-4][0-9]|150|[2-9][0-9])|r(200|1[0-9][0-9]|[1-9][0-9]|[0-9])|x)");
    private static final Pattern WORKS = Pattern.compile(PART + "(;" + PART + ")*");

    private static final class Person {
        final int weight;
        int step;

        Person(int weight, int step) {
            this.weight = weight;
            this.step = step;
        }
    }

    private static final class Ladder {
        int base = 50, height = 150, weight = 20, ground = 2, wall = 2, rope = 0, falls = 0;
        List<Person> people = new ArrayList<>();

        Ladder copy() {
            Ladder c = new Ladder();
            c.base = base;
            c.height = height;
            c.weight = weight;
            c.ground = ground;
            c.wall = wall;
            c.rope = rope;
            c.falls = falls;
            for (Person p : people) {
                c.people.add(new Person(p.weight, p.step));
            }
            return c;
        }

        long load() {
            return weight + people.stream().mapToLong(p -> p.weight).sum();
        }

        long moment() {
            return base * (5L * weight + people.stream().mapToLong(p -> (long) p.step * p.weight).sum());
        }

        long push(long f) {
            return moment() - 10L * f * base;
        }

        int mask(long f) {
            return mask(f, load(), moment());
        }

        private int mask(long f, long load, long moment) {
            long push = moment - 10L * f * base;
            boolean pushes = push >= 0;
            boolean wallHolds = 1000L * height * Math.abs(f) <= WALL[wall] * push && !(wall == 3 && f < 0);
            boolean below = f <= load;
            boolean groundHolds = 100 * push <= 10L * height * (GROUND[ground] * (load - f) + 100L * rope);
            return (pushes ? 0 : 1) + (wallHolds ? 0 : 2) + (below ? 0 : 4) + (groundHolds ? 0 : 8);
        }

        List<Integer> holding() {
            long load = load();
            long moment = moment();
            List<Integer> all = new ArrayList<>();
            for (int f = -1000; f <= 1000; f++) {
                if (mask(f, load, moment) == 0) {
                    all.add(f);
                }
            }
            return all;
        }

        boolean stands() {
            return !holding().isEmpty();
        }
    }

    private static final class State {
        Ladder[] ladders = {new Ladder(), new Ladder(), new Ladder(), new Ladder()};
        int fell = 0;
        int climbed = 0;

        State copy() {
            State c = new State();
            for (int i = 0; i < 4; i++) {
                c.ladders[i] = ladders[i].copy();
            }
            c.fell = fell;
            c.climbed = climbed;
            return c;
        }
    }

    private State now = new State();
    private final List<State> saved = new ArrayList<>();
    private String buffer = "";

    private void save() {
        saved.add(now.copy());
        if (saved.size() > 6) {
            saved.remove(0);
        }
    }

    private Ladder ladderOf(int ladder) {
        if (ladder < 0 || ladder > 3) {
            throw new IndexOutOfBoundsException();
        }
        return now.ladders[ladder];
    }

    private static Person personOf(Ladder l, int person) {
        if (person < 0 || person >= l.people.size()) {
            throw new IndexOutOfBoundsException();
        }
        return l.people.get(person);
    }

    private static void demand(boolean fits) {
        if (!fits) {
            throw new IllegalArgumentException();
        }
    }

    private boolean falls(Ladder l) {
        if (l.people.isEmpty() || l.stands()) {
            return false;
        }
        now.fell += l.people.size();
        l.falls++;
        l.people.clear();
        return true;
    }

    int put(int ladder, int base, int height, int weight) {
        Ladder l = ladderOf(ladder);
        demand(base >= 10 && base <= 100 && height >= 50 && height <= 300 && weight >= 1 && weight <= 100);
        save();
        l.base = base;
        l.height = height;
        l.weight = weight;
        return falls(l) ? 1 : 0;
    }

    int kinds(int ladder, int ground, int wall) {
        Ladder l = ladderOf(ladder);
        demand(ground >= 0 && ground <= 3 && wall >= 0 && wall <= 3);
        save();
        l.ground = ground;
        l.wall = wall;
        return falls(l) ? 1 : 0;
    }

    int rope(int ladder, int rope) {
        Ladder l = ladderOf(ladder);
        demand(rope >= 0 && rope <= 200);
        save();
        l.rope = rope;
        return falls(l) ? 1 : 0;
    }

    int on(int ladder, int weight) {
        Ladder l = ladderOf(ladder);
        demand(weight >= 20 && weight <= 150);
        if (l.people.size() == 3) {
            throw new IllegalStateException();
        }
        save();
        return comes(l, weight);
    }

    private int comes(Ladder l, int weight) {
        l.people.add(new Person(weight, 0));
        falls(l);
        return l.people.size();
    }

    int off(int ladder, int person) {
        Ladder l = ladderOf(ladder);
        personOf(l, person);
        save();
        return goes(l, person);
    }

    private int goes(Ladder l, int person) {
        l.people.remove(person);
        falls(l);
        return l.people.size();
    }

    int climb(int ladder, int person, int step) {
        Ladder l = ladderOf(ladder);
        personOf(l, person);
        demand(step >= 0 && step <= 10);
        save();
        return climbs(l, person, step);
    }

    private int climbs(Ladder l, int person, int step) {
        Person p = l.people.get(person);
        while (p.step != step) {
            p.step += Integer.signum(step - p.step);
            now.climbed++;
            if (falls(l)) {
                return -1;
            }
        }
        return step;
    }

    int append(int code) {
        demand(code >= 33 && code <= 126);
        if (buffer.length() == 60) {
            throw new IllegalStateException();
        }
        buffer += (char) code;
        return buffer.length();
    }

    int clearBuffer() {
        int length = buffer.length();
        buffer = "";
        return length;
    }

    int firstError() {
        for (int i = 0; i < buffer.length(); i++) {
            Matcher m = WORKS.matcher(buffer.substring(0, i + 1));
            if (!m.matches() && !m.hitEnd()) {
                return i;
            }
        }
        return buffer.length();
    }

    int play() {
        demand(WORKS.matcher(buffer).matches());
        save();
        int done = 0;
        for (String part : buffer.split(";")) {
            if (!plays(part)) {
                break;
            }
            done++;
        }
        buffer = "";
        return done;
    }

    private boolean plays(String part) {
        Ladder l = now.ladders[part.charAt(0) - '0'];
        char work = part.charAt(1);
        int number = work == 'x' ? 0 : Integer.parseInt(part.substring(2));
        if (work == 'o' ? l.people.size() == 3 : work != 'r' && l.people.isEmpty()) {
            return false;
        }
        if (work == 'u') {
            climbs(l, 0, number);
        } else if (work == 'o') {
            comes(l, number);
        } else if (work == 'r') {
            l.rope = number;
            falls(l);
        } else {
            goes(l, l.people.size() - 1);
        }
        return true;
    }

    int undo() {
        if (saved.isEmpty()) {
            throw new IllegalStateException();
        }
        now = saved.remove(saved.size() - 1);
        return saved.size();
    }

    int ladder(int ladder, int what) {
        Ladder l = ladderOf(ladder);
        demand(what >= 0 && what <= 10);
        long[] numbers = {l.base, l.height, l.weight, l.ground, l.wall, l.rope, l.people.size(),
            l.load(), l.moment(), l.falls, l.stands() ? 1 : 0};
        return (int) numbers[what];
    }

    int person(int ladder, int person, int what) {
        Person p = personOf(ladderOf(ladder), person);
        demand(what == 0 || what == 1);
        return what == 0 ? p.weight : p.step;
    }

    int force(int ladder, int what) {
        Ladder l = ladderOf(ladder);
        demand(what >= 0 && what <= 5);
        List<Integer> all = l.holding();
        if (all.isEmpty()) {
            return what == 2 ? 0 : -1;
        }
        int nearest = all.get(0);
        for (int f : all) {
            if (Math.abs(f) <= Math.abs(nearest)) {
                nearest = f;
            }
        }
        long[] numbers = {all.get(0) + 1000, all.get(all.size() - 1) + 1000, all.size(),
            nearest + 1000, l.push(nearest), l.load() - nearest};
        return (int) numbers[what];
    }

    int held(int ladder, int f) {
        Ladder l = ladderOf(ladder);
        demand(f >= -1000 && f <= 1000);
        return l.mask(f);
    }

    int count(int what) {
        demand(what >= 0 && what <= 5);
        int stand = 0;
        int people = 0;
        int falls = 0;
        for (Ladder l : now.ladders) {
            stand += l.stands() ? 1 : 0;
            people += l.people.size();
            falls += l.falls;
        }
        return new int[] {stand, people, falls, now.fell, now.climbed, saved.size()}[what];
    }

    int highest(int ladder, int person) {
        personOf(ladderOf(ladder), person);
        Ladder l = ladderOf(ladder).copy();
        Person p = l.people.get(person);
        int reached = p.step;
        while (reached < 10) {
            p.step = reached + 1;
            if (!l.stands()) {
                break;
            }
            reached++;
        }
        return reached;
    }

    int neededRope(int ladder) {
        Ladder l = ladderOf(ladder).copy();
        for (l.rope = 0; l.rope <= 200; l.rope++) {
            if (l.stands()) {
                return l.rope;
            }
        }
        return -1;
    }

    int bestBase(int ladder) {
        Ladder l = ladderOf(ladder).copy();
        int best = -1;
        int most = 0;
        for (l.base = 10; l.base <= 100; l.base += 5) {
            int size = l.holding().size();
            if (size > most) {
                best = l.base;
                most = size;
            }
        }
        return best;
    }

    int riskiest(int ladder) {
        int best = -1;
        int most = -1;
        for (int i = 0; i < ladderOf(ladder).people.size(); i++) {
            Ladder l = ladderOf(ladder).copy();
            l.people.remove(i);
            int size = l.holding().size();
            if (size > most) {
                best = i;
                most = size;
            }
        }
        return best;
    }

    int walls(int ladder) {
        Ladder l = ladderOf(ladder).copy();
        int mask = 0;
        for (l.wall = 0; l.wall <= 3; l.wall++) {
            mask += l.stands() ? 1 << l.wall : 0;
        }
        return mask;
    }

    double safety() {
        int people = count(1);
        return people + now.fell == 0 ? 1.0 : (double) people / (people + now.fell);
    }

    long digest() {
        List<Long> values = new ArrayList<>();
        for (int what = 0; what <= 5; what++) {
            values.add((long) count(what));
        }
        for (int i = 0; i < 4; i++) {
            for (int what = 0; what <= 10; what++) {
                values.add((long) ladder(i, what));
            }
            for (int what = 0; what <= 5; what++) {
                values.add((long) force(i, what));
            }
            for (int p = 0; p < now.ladders[i].people.size(); p++) {
                values.add((long) person(i, p, 0));
                values.add((long) person(i, p, 1));
                values.add((long) highest(i, p));
            }
            values.add((long) neededRope(i));
            values.add((long) bestBase(i));
            values.add((long) riskiest(i));
            values.add((long) walls(i));
        }
        values.add((long) held(0, -10));
        values.add((long) held(0, 0));
        values.add((long) held(0, 10));
        values.add(Double.doubleToLongBits(safety()));
        values.add((long) buffer.length());
        for (char c : buffer.toCharArray()) {
            values.add((long) c);
        }
        long hash = 3617;
        for (long v : values) {
            hash = 31 * hash + v;
        }
        return hash;
    }
}
