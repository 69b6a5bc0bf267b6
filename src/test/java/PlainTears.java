import java.math.BigInteger;
import java.util.ArrayList;
import java.util.Arrays;
import java.util.List;
import java.util.regex.Matcher;
import java.util.regex.Pattern;

/**
 * The document's words once more, in other ways than the program's: faults by trying what could
 * come behind, services by all ways, shares by all orders, chances by all subsets of fates.
 */
final class PlainTears {
    private static final int NONE = -9;
    private static final Pattern PART = Pattern.compile("P([0-9])([0-9])([0-3])|K([0-4])([0-4])");

    /** One time's people. */
    static final class Scene {
        int[][] people = new int[0][];
        boolean[][] kin = new boolean[0][0];
        int[][] owed = new int[0][0];
        boolean[] open = new boolean[0];
        boolean[] users = new boolean[0];
        int weeks = 0;

        Scene copy() {
            Scene other = new Scene();
            other.people = Arrays.stream(people).map(int[]::clone).toArray(int[][]::new);
            other.kin = Arrays.stream(kin).map(boolean[]::clone).toArray(boolean[][]::new);
            other.owed = Arrays.stream(owed).map(int[]::clone).toArray(int[][]::new);
            other.open = open.clone();
            other.users = users.clone();
            other.weeks = weeks;
            return other;
        }

        int size() {
            return people.length;
        }

        boolean isThere(int person) {
            return person >= 0 && person < size();
        }

        int ounces(int person) {
            int sorrow = people[person][0];
            boolean old = people[person][1] > 1;
            return switch (people[person][2]) {
                case 0 -> old ? sorrow / 3 : 0;
                case 1 -> old ? sorrow / 4 : 0;
                case 2 -> sorrow / 2;
                default -> 0;
            };
        }

        boolean may(int person, int other) {
            return isThere(person) && isThere(other) && open[other] && !open[person]
                    && !kin[person][other] && ounces(person) > 0;
        }

        void die(int person) {
            people[person][0] = 9;
            people[person][1] = 0;
            open[person] = true;
        }

        void close(int weeper, int bereaved) {
            kin[weeper][bereaved] = true;
            kin[bereaved][weeper] = true;
            owed[bereaved][weeper] += 1;
            open[bereaved] = false;
        }

        void week() {
            weeks += 1;
            for (int[] one : people) {
                one[1] = one[1] == 99 ? 99 : one[1] + 1;
                one[0] -= one[1] > 2 && one[0] > 0 ? 1 : 0;
            }
        }
    }

    private final StringBuilder text = new StringBuilder();
    private final List<Scene> acts = new ArrayList<>();
    private final Scene[] slots = new Scene[2];
    private Scene now = new Scene();
    private long theSeed = 0;

    int write(int letter) {
        if (letter < 0 || letter > 255) {
            return -2;
        }
        if (text.length() == 48) {
            return -4;
        }
        text.append((char) letter);
        return text.length();
    }

    int wipe() {
        int length = text.length();
        text.setLength(0);
        return length;
    }

    /** The people of a whole land, or null. */
    static Scene read(String letters) {
        if (!letters.startsWith("T")) {
            return null;
        }
        List<int[]> people = new ArrayList<>();
        List<int[]> pairs = new ArrayList<>();
        Matcher part = PART.matcher(letters);
        int place = 1;
        while (place < letters.length()) {
            if (!part.find(place) || part.start() != place) {
                return null;
            }
            if (part.group(1) != null) {
                people.add(new int[] {number(part, 1), number(part, 2), number(part, 3)});
            } else {
                int[] pair = {number(part, 4), number(part, 5)};
                boolean told = pairs.stream().anyMatch(known -> Arrays.equals(known, pair));
                if (told || pair[0] >= pair[1] || pair[1] >= people.size()) {
                    return null;
                }
                pairs.add(pair);
            }
            place = part.end();
        }
        return people.size() > 5 ? null : sceneOf(people, pairs);
    }

    private static int number(Matcher part, int group) {
        return Integer.parseInt(part.group(group));
    }

    private static Scene sceneOf(List<int[]> people, List<int[]> pairs) {
        Scene scene = new Scene();
        int size = people.size();
        scene.people = people.toArray(new int[0][]);
        scene.kin = new boolean[size][size];
        scene.owed = new int[size][size];
        scene.open = new boolean[size];
        scene.users = new boolean[size];
        for (int[] pair : pairs) {
            scene.kin[pair[0]][pair[1]] = true;
            scene.kin[pair[1]][pair[0]] = true;
        }
        return scene;
    }

    /** Whether something of three letters at most makes a land of it: no part needs more. */
    private static boolean canBecomeLand(String letters, int more) {
        if (read(letters) != null) {
            return true;
        }
        for (char next = '0'; more > 0 && next <= '9'; next++) {
            if (canBecomeLand(letters + next, more - 1)) {
                return true;
            }
        }
        return false;
    }

    int fault() {
        String letters = text.toString();
        if (read(letters) != null) {
            return NONE;
        }
        for (int length = 1; length <= letters.length(); length++) {
            if (!canBecomeLand(letters.substring(0, length), 3)) {
                return length - 1;
            }
        }
        return letters.length();
    }

    int land() {
        Scene scene = read(text.toString());
        if (scene == null) {
            return -3;
        }
        now = scene;
        acts.clear();
        slots[0] = null;
        slots[1] = null;
        return now.size();
    }

    private static int bits(boolean[] those) {
        int bits = 0;
        for (int person = 0; person < those.length; person++) {
            bits += those[person] ? 1 << person : 0;
        }
        return bits;
    }

    int about(int what) {
        return switch (what) {
            case 0 -> now.size();
            case 1 -> bits(now.open);
            case 2 -> now.weeks;
            case 3 -> bits(now.users);
            case 4 -> acts.size();
            case 5 -> text.length();
            case 6 -> Arrays.stream(now.people).mapToInt(one -> one[0]).sum();
            default -> -2;
        };
    }

    int person(int person, int what) {
        if (!now.isThere(person)) {
            return -1;
        }
        if (what < 0 || what > 5) {
            return -2;
        }
        if (what < 3) {
            return now.people[person][what];
        }
        boolean[] may = new boolean[now.size()];
        for (int other = 0; other < now.size(); other++) {
            may[other] = now.may(person, other);
        }
        return what == 3 ? bits(now.kin[person]) : what == 4 ? now.ounces(person) : bits(may);
    }

    int owes(int person, int other) {
        return now.isThere(person) && now.isThere(other) ? now.owed[person][other] : -1;
    }

    private void note() {
        acts.add(now.copy());
        if (acts.size() == 15) {
            acts.remove(0);
        }
    }

    int funeral(int person) {
        if (!now.isThere(person)) {
            return -1;
        }
        if (now.open[person]) {
            return -3;
        }
        note();
        now.die(person);
        return Integer.bitCount(bits(now.open));
    }

    int weep(int person, int other) {
        if (!now.isThere(person) || !now.isThere(other)) {
            return -1;
        }
        if (!now.may(person, other)) {
            return -3;
        }
        note();
        int ounces = now.ounces(person);
        now.people[person][0] -= ounces;
        now.close(person, other);
        return ounces;
    }

    int onions(int person, int other) {
        if (!now.isThere(person) || !now.isThere(other)) {
            return -1;
        }
        if (!now.open[other] || now.open[person] || now.kin[person][other]) {
            return -3;
        }
        note();
        now.users[person] = true;
        now.close(person, other);
        return Integer.bitCount(bits(now.users));
    }

    int week() {
        note();
        now.week();
        return now.weeks;
    }

    int undo() {
        if (acts.isEmpty()) {
            return -3;
        }
        now = acts.remove(acts.size() - 1);
        return acts.size();
    }

    /** Most, ounces, way: all numbers of as many figures are tried, the least one first. */
    private static int[] service(Scene scene, boolean[] open, boolean[] weepers) {
        List<Integer> dead = new ArrayList<>();
        for (int person = 0; person < scene.size(); person++) {
            if (open[person]) {
                dead.add(person);
            }
        }
        int[] best = {-1, 0, 0};
        int ways = (int) Math.pow(6, dead.size());
        for (int way = 0; way < ways; way++) {
            int[] got = tried(scene, dead, weepers, way);
            if (got != null && (got[0] > best[0] || got[0] == best[0] && got[1] < best[1])) {
                best = got;
            }
        }
        return best;
    }

    private static int[] tried(Scene scene, List<Integer> dead, boolean[] weepers, int way) {
        int[] got = new int[3];
        int used = 0;
        int rest = way;
        int place = 1;
        for (int at = dead.size() - 1; at >= 0; at--) {
            int figure = rest % 6;
            rest /= 6;
            got[2] += place * figure;
            place *= 10;
            if (figure > 0) {
                int weeper = figure - 1;
                if (weeper >= scene.size() || !weepers[weeper] || (used >> weeper & 1) != 0
                        || scene.kin[weeper][dead.get(at)] || scene.ounces(weeper) < 1) {
                    return null;
                }
                used |= 1 << weeper;
                got[0] += 1;
                got[1] += scene.ounces(weeper);
            }
        }
        return got;
    }

    private static boolean[] not(boolean[] those) {
        boolean[] others = those.clone();
        for (int person = 0; person < those.length; person++) {
            others[person] = !those[person];
        }
        return others;
    }

    int served(int what) {
        return what < 0 || what > 2 ? -2 : service(now, now.open, not(now.open))[what];
    }

    int nobody(int what) {
        if (what != 0 && what != 1) {
            return -2;
        }
        boolean[] those = new boolean[now.size()];
        for (int person = 0; person < now.size(); person++) {
            boolean isWept = false;
            boolean isKinToAll = true;
            for (int other = 0; other < now.size(); other++) {
                isWept |= now.may(other, person);
                isKinToAll &= other == person || now.kin[person][other];
            }
            those[person] = what == 0 ? now.open[person] && !isWept : isKinToAll;
        }
        return bits(those);
    }

    int till(int person, int other) {
        if (!now.isThere(person) || !now.isThere(other)) {
            return -1;
        }
        for (int weeks = 0; weeks < 10; weeks++) {
            Scene then = now.copy();
            for (int week = 0; week < weeks; week++) {
                then.week();
            }
            if (then.may(person, other)) {
                return weeks;
            }
        }
        return NONE;
    }

    int net(int person) {
        if (!now.isThere(person)) {
            return -1;
        }
        int owes = Arrays.stream(now.owed[person]).sum();
        int owed = Arrays.stream(now.owed).mapToInt(row -> row[person]).sum();
        return 100 + owed - owes;
    }

    int ring() {
        boolean[] those = new boolean[now.size()];
        for (int person = 0; person < now.size(); person++) {
            those[person] = comesBack(person, person, 0);
        }
        return bits(those);
    }

    private boolean comesBack(int home, int at, int steps) {
        for (int next = 0; next < now.size(); next++) {
            if (now.owed[at][next] > 0 && (next == home || steps < 5 && comesBack(home, next, steps + 1))) {
                return true;
            }
        }
        return false;
    }

    private static int part(BigInteger above, BigInteger below, boolean upper) {
        BigInteger common = above.gcd(below);
        return (upper ? above : below).divide(common).intValueExact();
    }

    int share(int person, boolean upper) {
        if (!now.isThere(person)) {
            return -1;
        }
        if (now.open[person]) {
            return upper ? 0 : 1;
        }
        long[] sums = new long[2];
        inAllOrders(person, new boolean[now.size()], false, sums);
        return part(BigInteger.valueOf(sums[0]), BigInteger.valueOf(sums[1]), upper);
    }

    private void inAllOrders(int person, boolean[] come, boolean hasCome, long[] sums) {
        boolean isEnd = true;
        for (int next = 0; next < now.size(); next++) {
            if (!come[next] && !now.open[next]) {
                isEnd = false;
                boolean[] then = come.clone();
                then[next] = true;
                if (next == person) {
                    int more = service(now, now.open, then)[0] - service(now, now.open, come)[0];
                    sums[0] += more * orders(then);
                }
                inAllOrders(person, then, hasCome || next == person, sums);
            }
        }
        sums[1] += isEnd ? 1 : 0;
    }

    private long orders(boolean[] come) {
        long orders = 1;
        int left = now.size() - Integer.bitCount(bits(come)) - Integer.bitCount(bits(now.open));
        for (int factor = 2; factor <= left; factor++) {
            orders *= factor;
        }
        return orders;
    }

    int weighed(int people, int sum, int what) {
        if (people < 0 || people >= 1 << now.size() || sum < 0 || sum > 45 || what < 0 || what > 2) {
            return -2;
        }
        List<Integer> sets = new ArrayList<>();
        for (int users = 0; users < 32; users++) {
            if ((users | people) == people) {
                int ounces = 2 * Integer.bitCount(users);
                for (int person = 0; person < now.size(); person++) {
                    ounces += ((people ^ users) >> person & 1) * now.ounces(person);
                }
                if (ounces == sum) {
                    sets.add(users);
                }
            }
        }
        if (what == 0) {
            return sets.size();
        }
        int bits = 0;
        for (int person = 0; person < now.size(); person++) {
            int bit = 1 << person;
            long with = sets.stream().filter(users -> (users & bit) != 0).count();
            bits |= (people & bit) != 0 && with == (what == 1 ? sets.size() : 0) ? bit : 0;
        }
        return sets.isEmpty() ? NONE : bits;
    }

    int whose(int w) {
        boolean[] those = new boolean[now.size()];
        for (int person = 0; person < now.size(); person++) {
            those[person] = now.ounces(person) == w;
        }
        return w < 1 || w > 9 ? -2 : bits(those);
    }

    int rests(int person, int other, int third, int what) {
        if (!now.isThere(person) || !now.isThere(other) || !now.isThere(third)) {
            return -1;
        }
        if (person == other || other == third || third == person || what < 0 || what > 1) {
            return -2;
        }
        if (!now.open[third]) {
            return -3;
        }
        boolean[] may = {now.may(person, third), now.may(other, third)};
        int pairs = 0;
        int first = NONE;
        for (int pair = 15; pair >= 0; pair--) {
            int[] offers = {pair / 4, pair % 4};
            boolean isAtRest = true;
            for (int change = 0; change < 4; change++) {
                isAtRest &= got(new int[] {change, offers[1]}, may)[0] <= got(offers, may)[0];
                isAtRest &= got(new int[] {offers[0], change}, may)[1] <= got(offers, may)[1];
            }
            if (isAtRest) {
                pairs += 1;
                first = offers[0] * 10 + offers[1];
            }
        }
        return what == 0 ? pairs : first;
    }

    private static int[] got(int[] offers, boolean[] may) {
        int greater = offers[1] > offers[0] ? 1 : 0;
        int weeper = may[greater] ? greater : may[1 - greater] ? 1 - greater : -1;
        int[] got = new int[2];
        for (int one = 0; one < 2; one++) {
            got[one] = weeper == one ? 3 - offers[one] : 0;
            got[one] -= offers[one] >= 1 && !may[one] ? 1 : 0;
        }
        return got;
    }

    int chance(int x, boolean upper) {
        if (x < 0 || x > 10) {
            return -2;
        }
        BigInteger above = fates(0, x, now.open.clone());
        BigInteger below = BigInteger.TEN.pow(now.size() - Integer.bitCount(bits(now.open)));
        return part(above, below, upper);
    }

    private BigInteger fates(int person, int x, boolean[] open) {
        if (person == now.size()) {
            boolean isServed = service(now, open, not(open))[0] == Integer.bitCount(bits(open));
            return isServed ? BigInteger.ONE : BigInteger.ZERO;
        }
        if (now.open[person]) {
            return fates(person + 1, x, open);
        }
        boolean[] struck = open.clone();
        struck[person] = true;
        BigInteger spared = fates(person + 1, x, open).multiply(BigInteger.valueOf(10 - x));
        return spared.add(fates(person + 1, x, struck).multiply(BigInteger.valueOf(x)));
    }

    long seed(long v) {
        long before = theSeed;
        theSeed = v;
        return before;
    }

    int years(int m) {
        if (m < 1 || m > 20) {
            return -2;
        }
        Scene then = now.copy();
        int wept = 0;
        for (int year = 0; year < m; year++) {
            BigInteger next = BigInteger.valueOf(theSeed).multiply(BigInteger.valueOf(6364136223846793005L))
                    .add(BigInteger.valueOf(1442695040888963407L));
            theSeed = next.longValue();
            BigInteger unsigned = next.mod(BigInteger.ONE.shiftLeft(64));
            int lot = unsigned.shiftRight(33).mod(BigInteger.valueOf(50)).intValue();
            int dead = lot / 10;
            int other = lot % 10;
            if (then.isThere(dead) && !then.open[dead]) {
                then.die(dead);
            }
            if (then.may(other, dead)) {
                then.people[other][0] -= then.ounces(other);
                then.close(other, dead);
                wept += 1;
            }
            then.week();
        }
        return wept;
    }

    int keep(int slot) {
        if (slot != 0 && slot != 1) {
            return -1;
        }
        slots[slot] = now.copy();
        return now.weeks;
    }

    int again(int slot) {
        if (slot != 0 && slot != 1) {
            return -1;
        }
        if (slots[slot] == null) {
            return -3;
        }
        now = slots[slot].copy();
        acts.clear();
        return now.weeks;
    }
}
