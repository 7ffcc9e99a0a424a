import java.util.ArrayList;
import java.util.Comparator;
import java.util.List;
import java.util.Random;
import java.util.TreeSet;

/** Long mixed runs of calls, each answer held against a model that lists all pairs one by one. */
public final class ModelTest {
    private static final String IAE = "throws IllegalArgumentException";
    private static final String ISE = "throws IllegalStateException";
    private static final String UOE = "throws UnsupportedOperationException";
    private static final int RUNS = 3000;
    private static final int CALLS = 512;

    private record Row(int key, int value, int number) { }

    /** A pair: the index of its key among all keys, and its rows, null for one that is not there. */
    private record Pair(int keyIndex, Row left, Row right) {
        int key() {
            return left != null ? left.key : right.key;
        }
    }

    private record Place(int passed, boolean at, int nextKey) { }

    private static final class Model {
        final int leftRoom;
        final int rightRoom;
        final int groupRoom;
        final List<Row> left = new ArrayList<>();
        final List<Row> right = new ArrayList<>();
        List<Row> sortedLeft = List.of();
        List<Row> sortedRight = List.of();
        List<Integer> keys = List.of();
        final List<List<Pair>> pairs = new ArrayList<>();
        boolean prepared = false;
        boolean told = false;
        int kind = 0;
        long cells = 0;
        Place here = new Place(0, false, 0);
        Place mark = null;

        Model(int left, int right, int groups) {
            leftRoom = Math.min(400, Math.max(0, left));
            rightRoom = Math.min(400, Math.max(0, right));
            groupRoom = Math.min(400, Math.max(0, groups));
        }

        Object add(boolean isLeft, int key, int value) {
            List<Row> rows = isLeft ? left : right;
            if (rows.size() == (isLeft ? leftRoom : rightRoom)) {
                return ISE;
            }
            prepared = false;
            rows.add(new Row(key, value, rows.size()));
            return rows.size() - 1;
        }

        Object prepare() {
            prepared = true;
            told = false;
            sortedLeft = sort(left);
            sortedRight = sort(right);
            TreeSet<Integer> all = new TreeSet<>();
            left.forEach(r -> all.add(r.key));
            right.forEach(r -> all.add(r.key));
            keys = new ArrayList<>(all);
            pairs.clear();
            for (int k = 0; k < 4; k++) {
                pairs.add(allPairs(k));
            }
            toStart();
            mark = null;
            return "nothing";
        }

        static List<Row> sort(List<Row> rows) {
            List<Row> copy = new ArrayList<>(rows);
            copy.sort(Comparator.comparingInt(Row::key).thenComparingInt(Row::number));
            return copy;
        }

        List<Pair> allPairs(int k) {
            List<Pair> all = new ArrayList<>();
            for (int index = 0; index < keys.size(); index++) {
                List<Row> ls = of(left, keys.get(index));
                List<Row> rs = of(right, keys.get(index));
                for (Row l : ls) {
                    for (Row r : rs) {
                        all.add(new Pair(index, l, r));
                    }
                    if (rs.isEmpty() && (k == 1 || k == 3)) {
                        all.add(new Pair(index, l, null));
                    }
                }
                for (Row r : rs) {
                    if (ls.isEmpty() && (k == 2 || k == 3)) {
                        all.add(new Pair(index, null, r));
                    }
                }
            }
            return all;
        }

        static List<Row> of(List<Row> rows, int key) {
            return rows.stream().filter(r -> r.key == key).toList();
        }

        void toStart() {
            here = new Place(0, false, 0);
            cells = 0;
        }

        Object kind(int k) {
            if (k < 0 || k > 3) {
                return IAE;
            }
            kind = k;
            toStart();
            mark = null;
            return "nothing";
        }

        Object next() {
            if (!prepared) {
                return ISE;
            }
            List<Pair> all = pairs.get(kind);
            boolean there = here.passed < all.size();
            int upTo = there ? all.get(here.passed).keyIndex : keys.size() - 1;
            for (int index = here.nextKey; index <= upTo; index++) {
                cells += cellsOfKey(index);
            }
            here = new Place(here.passed + (there ? 1 : 0), there, upTo + 1);
            return there;
        }

        /** What next() reads at a key, by counting alone: the document's steps in closed form. */
        int cellsOfKey(int index) {
            int key = keys.get(index);
            int ls = of(left, key).size();
            int rs = of(right, key).size();
            int leftFrom = (int) left.stream().filter(r -> r.key >= key).count();
            int rightFrom = (int) right.stream().filter(r -> r.key >= key).count();
            int read = leftFrom > 0 && rightFrom > 0 ? 2 : 0;
            if (ls > 0) {
                read += Math.min(ls + 1, leftFrom);
            }
            if (rs > 0) {
                read += Math.min(rs + 1, rightFrom);
            }
            return read;
        }

        Object pair(int what) {
            if (what < 0 || what > 4) {
                return IAE;
            }
            if (!prepared || !here.at) {
                return what < 3 ? 0 : -1;
            }
            Pair p = pairs.get(kind).get(here.passed - 1);
            switch (what) {
                case 0: return p.key();
                case 1: return p.left == null ? 0 : p.left.value;
                case 2: return p.right == null ? 0 : p.right.value;
                case 3: return p.left == null ? -1 : p.left.number;
                default: return p.right == null ? -1 : p.right.number;
            }
        }

        Object mark() {
            if (!prepared) {
                return ISE;
            }
            mark = here;
            return here.passed;
        }

        Object back() {
            if (!prepared || mark == null) {
                return ISE;
            }
            here = mark;
            return here.passed;
        }

        Object seek(int key) {
            if (!prepared) {
                return ISE;
            }
            cells += halves(sortedLeft, key, 0, sortedLeft.size());
            cells += halves(sortedRight, key, 0, sortedRight.size());
            int before = (int) pairs.get(kind).stream().filter(p -> p.key() < key).count();
            here = new Place(before, false, (int) keys.stream().filter(k -> k < key).count());
            return before < pairs.get(kind).size();
        }

        static int halves(List<Row> rows, int key, int low, int high) {
            if (low >= high) {
                return 0;
            }
            int middle = (low + high) / 2;
            return 1 + (rows.get(middle).key < key ? halves(rows, key, middle + 1, high) : halves(rows, key, low, middle));
        }

        Object rewind() {
            if (!prepared) {
                return ISE;
            }
            toStart();
            return "nothing";
        }

        Object count(int k) {
            if (k < 0 || k > 3) {
                return IAE;
            }
            return prepared ? (Object) (long) pairs.get(k).size() : ISE;
        }

        Object rows(boolean isLeft, boolean partner) {
            if (!prepared) {
                return ISE;
            }
            List<Row> others = isLeft ? right : left;
            return (int) (isLeft ? left : right).stream().filter(r -> of(others, r.key).isEmpty() != partner).count();
        }

        List<Integer> groupKeys() {
            return pairs.get(0).stream().map(Pair::key).distinct().toList();
        }

        Object groups() {
            if (!prepared) {
                return ISE;
            }
            if (groupKeys().size() > groupRoom) {
                return UOE;
            }
            told = true;
            return groupKeys().size();
        }

        Object group(int i, int what) {
            if (i < 0 || what < 0 || what > 4) {
                return IAE;
            }
            if (!prepared || !told) {
                return ISE;
            }
            if (i >= groupKeys().size()) {
                return IAE;
            }
            int key = groupKeys().get(i);
            long[] products = pairs.get(0).stream().filter(p -> p.key() == key)
                    .mapToLong(p -> (long) p.left.value * p.right.value).toArray();
            long sum = 0;
            long least = Long.MAX_VALUE;
            long greatest = Long.MIN_VALUE;
            for (long product : products) {
                sum += product;
                least = Math.min(least, product);
                greatest = Math.max(greatest, product);
            }
            return new long[] {key, products.length, sum, least, greatest}[what];
        }

        Object sorted(boolean isLeft, int i, int what) {
            if (i < 0 || i >= (isLeft ? left : right).size() || what < 0 || what > 2) {
                return IAE;
            }
            if (!prepared) {
                return ISE;
            }
            Row row = (isLeft ? sortedLeft : sortedRight).get(i);
            return what == 0 ? row.key : what == 1 ? row.value : row.number;
        }

        Object about(int what) {
            if (what < 0 || what > 4) {
                return IAE;
            }
            return new long[] {cells, left.size(), right.size(), prepared ? 1 : 0, kind}[what];
        }

        Object clear() {
            left.clear();
            right.clear();
            kind = 0;
            prepared = false;
            return "nothing";
        }
    }

    /** One run: the same random calls to both. */
    private static final class Run {
        final Random random;
        final JoinDesk desk;
        final Model model;
        final int[] keyChoice;
        final int adds;
        final StringBuilder story = new StringBuilder();

        Run(int seed) {
            random = new Random(seed);
            int[] rooms = {-3, 0, 1, 5, 20, 60, 400, 999};
            int left = rooms[random.nextInt(rooms.length)];
            int right = rooms[random.nextInt(rooms.length)];
            int groups = rooms[random.nextInt(rooms.length)];
            keyChoice = random.nextBoolean()
                    ? new int[] {Integer.MIN_VALUE, Integer.MIN_VALUE + 1, -1, 0, 1, Integer.MAX_VALUE}
                    : random.ints(1 + random.nextInt(60), -40, 40).toArray();
            adds = random.nextInt(200);
            desk = new JoinDesk(left, right, groups);
            model = new Model(left, right, groups);
            story.append("new JoinDesk(").append(left).append(", ").append(right).append(", ").append(groups).append(")");
        }

        int key() {
            return keyChoice[random.nextInt(keyChoice.length)] + (random.nextInt(10) == 0 ? 1 : 0);
        }

        int value() {
            int[] edges = {Integer.MIN_VALUE, Integer.MAX_VALUE, 0, -1};
            return random.nextInt(6) == 0 ? edges[random.nextInt(4)] : random.nextInt(2001) - 1000;
        }

        /** Whether all answers were as due. */
        boolean holds() {
            for (int call = 0; call < CALLS; call++) {
                int which = call < adds ? (random.nextInt(40) == 0 ? random.nextInt(100) : 0) : random.nextInt(100);
                if (!oneCall(which)) {
                    return false;
                }
            }
            return true;
        }

        boolean oneCall(int which) {
            boolean side = random.nextBoolean();
            boolean flag = random.nextBoolean();
            int what = random.nextInt(7) - 1;
            int place = random.nextInt(5) == 0 ? random.nextInt(70) - 1 : random.nextInt(8);
            int key = key();
            int value = value();
            if (which < 2) {
                return same("add(" + side + ", " + key + ", " + value + ")", model.add(side, key, value), () -> desk.add(side, key, value));
            } else if (which < 7) {
                return same("prepare()", model.prepare(), () -> nothing(desk::prepare));
            } else if (which < 10) {
                return same("kind(" + what + ")", model.kind(what), () -> nothing(() -> desk.kind(what)));
            } else if (which < 40) {
                return same("next()", model.next(), desk::next);
            } else if (which < 55) {
                return same("pair(" + what + ")", model.pair(what), () -> desk.pair(what));
            } else if (which < 59) {
                return same("mark()", model.mark(), desk::mark);
            } else if (which < 63) {
                return same("back()", model.back(), desk::back);
            } else if (which < 69) {
                return same("seek(" + key + ")", model.seek(key), () -> desk.seek(key));
            } else if (which < 70) {
                return same("rewind()", model.rewind(), () -> nothing(desk::rewind));
            } else if (which < 74) {
                return same("count(" + what + ")", model.count(what), () -> desk.count(what));
            } else if (which < 77) {
                return same("rows(" + side + ", " + flag + ")", model.rows(side, flag), () -> desk.rows(side, flag));
            } else if (which < 80) {
                return same("groups()", model.groups(), desk::groups);
            } else if (which < 86) {
                return same("group(" + place + ", " + what + ")", model.group(place, what), () -> desk.group(place, what));
            } else if (which < 91) {
                return same("sorted(" + side + ", " + place + ", " + what + ")", model.sorted(side, place, what),
                        () -> desk.sorted(side, place, what));
            } else if (which < 99 || random.nextInt(8) != 0) {
                int asked = flag ? 0 : what;
                return same("about(" + asked + ")", model.about(asked), () -> desk.about(asked));
            }
            return same("clear()", model.clear(), () -> nothing(desk::clear));
        }

        static Object nothing(Runnable call) {
            call.run();
            return "nothing";
        }

        boolean same(String name, Object want, java.util.concurrent.Callable<?> call) {
            String got;
            try {
                got = String.valueOf(call.call());
            } catch (Exception e) {
                got = "throws " + e.getClass().getSimpleName();
            }
            story.append("; ").append(name).append(" = ").append(got);
            if (!got.equals(String.valueOf(want))) {
                System.out.println(story + "\n  due is " + want);
                return false;
            }
            return true;
        }
    }

    public static void main(String[] args) {
        for (int seed = 0; seed < RUNS; seed++) {
            if (!new Run(seed).holds()) {
                System.out.println("run " + seed + " is not as due");
                System.exit(1);
            }
        }
        System.out.println("all answers of " + RUNS + " runs are as due");
    }
}
