import java.util.ArrayList;
import java.util.HashMap;
import java.util.List;
import java.util.Map;
import java.util.Random;

/** Promises 6 to 29 over many told texts, against a plain second telling of the same that counts everything one by one. */
public final class ModelTest {
    private static final Check CHECK = new Check("ModelTest");
    private static final int RUNS = 9000;
    // An object is used for 512 calls at most, and a step makes fewer than 50 of them.
    private static final int MOST_CALLS = 460;

    public static void main(String[] args) {
        SockTable x = new SockTable();
        int calls = 0;
        for (int run = 0; run < RUNS; run++) {
            boolean again = run % 4 == 1;
            x = again ? x : new SockTable();
            Run next = new Run(run, x, again ? calls : 0);
            next.play(run % 4 == 0 ? MOST_CALLS / 2 : MOST_CALLS);
            calls = next.calls;
        }
        CHECK.end();
    }

    /** A law of LOSE as a tree, with its own text. */
    private static final class Term {
        final String sign;
        final Term[] parts;
        final int number;

        Term(String sign, int number, Term... parts) {
            this.sign = sign;
            this.number = number;
            this.parts = parts;
        }

        static Term any(Random random, int depth) {
            int pick = random.nextInt(depth > 2 ? 2 : 6);
            if (pick == 0) {
                return new Term("int", random.nextInt(3) == 0 ? random.nextInt(10000) : random.nextInt(12));
            }
            if (pick == 1) {
                return new Term(new String[] {"week", "kind", "there", "all", "lot"}[random.nextInt(5)], 0);
            }
            String sign = new String[] {"+", "-", "*", "/"}[random.nextInt(4)];
            return new Term(sign, 0, any(random, depth + 1), any(random, depth + 1));
        }

        String text() {
            if (sign.equals("int")) {
                return "" + number;
            }
            return parts.length == 0 ? sign : "(" + parts[0].text() + sign + parts[1].text() + ")";
        }

        int value(Map<String, Integer> given) {
            if (sign.equals("int")) {
                return number;
            }
            if (parts.length == 0) {
                return given.get(sign);
            }
            long a = parts[0].value(given);
            long b = parts[1].value(given);
            if (sign.equals("/")) {
                if (b == 0) {
                    throw new IllegalStateException();
                }
                return (int) (a / b);
            }
            return (int) (sign.equals("+") ? a + b : sign.equals("-") ? a - b : a * b);
        }
    }

    private static final class Now {
        int[] bag;
        int[] table;
        int[] rolled;
        int draws;
        boolean stopped;

        Now copy() {
            Now c = new Now();
            c.bag = bag.clone();
            c.table = table.clone();
            c.rolled = rolled.clone();
            c.draws = draws;
            c.stopped = stopped;
            return c;
        }
    }

    private static final class Run {
        final int run;
        final Random random;
        final List<Integer> number = new ArrayList<>();
        final List<Integer> side = new ArrayList<>();
        final List<Integer> nameOf = new ArrayList<>();
        final List<String> names = new ArrayList<>();
        int[][] unlike;
        int near;
        int room = 18;
        int full = 1;
        int seed;
        final List<Integer> line = new ArrayList<>();
        final List<Term[]> cases = new ArrayList<>();
        Term last = new Term("int", 0);
        final SockTable x;
        Now now = new Now();
        final List<Now> past = new ArrayList<>();
        final Now[] slots = new Now[3];
        final List<int[]> seen = new ArrayList<>();
        // In every third run most is drawn, so that there is much to undo; in others most is asked.
        final boolean drawing;
        int calls;

        /** The object may have been told another text ahead, by so many calls. */
        Run(int run, SockTable x, int calls) {
            this.run = run;
            this.x = x;
            this.calls = calls;
            this.random = new Random(run * 7919L + 5);
            drawing = run % 3 == 0;
            String text = makeText();
            this.calls += text.length() / 20 + 2;
            due("read()", Check.read(x, text), 0);
            now.bag = new int[kinds()];
            for (int i = 0; i < kinds(); i++) {
                now.bag[i] = number.get(i);
            }
            now.table = new int[kinds()];
            now.rolled = new int[names.size()];
        }

        int kinds() {
            return number.size();
        }

        void due(String call, long got, long want) {
            calls++;
            CHECK.due("run " + run + ": " + call, got, want);
        }

        String makeText() {
            StringBuilder text = new StringBuilder();
            int room8 = random.nextInt(9);
            int things = random.nextInt(4) == 0 ? 18 : random.nextInt(11);
            String[] pool = {"red", "blue", "kid", "sockx", "a", "ab", "abcdefgh", "z"};
            while (number.size() < room8) {
                boolean glove = random.nextInt(3) == 0 && number.size() + 2 <= 8;
                String name = pool[names.size()];
                int a = random.nextInt(Math.min(9, things) + 1);
                things -= a;
                if (glove) {
                    int b = random.nextInt(Math.min(9, things) + 1);
                    things -= b;
                    addKind(a, 1);
                    addKind(b, 2);
                    text.append("glove ").append(name).append(' ').append(a).append(' ').append(b).append("; ");
                } else {
                    addKind(a, 0);
                    text.append("sock ").append(name).append(' ').append(a).append(";");
                }
                names.add(name);
            }
            tellUnlike(text);
            if (random.nextInt(3) != 0) {
                near = random.nextInt(100);
                text.append("near ").append(near).append(';');
            }
            if (random.nextInt(4) != 0) {
                room = 1 + random.nextInt(random.nextInt(3) == 0 ? 18 : 3);
                text.append("table ").append(room).append(';');
            }
            if (random.nextInt(4) != 0) {
                full = random.nextInt(4);
                text.append("full ").append(new String[] {"back", "stop", "few", "many"}[full]).append(";\n");
            }
            tellLine(text);
            if (random.nextInt(4) != 0) {
                seed = random.nextInt(10000);
                text.append("seed ").append(seed).append(';');
            }
            tellLose(text);
            return text.toString();
        }

        void addKind(int many, int itsSide) {
            number.add(many);
            side.add(itsSide);
            nameOf.add(names.size());
        }

        void tellUnlike(StringBuilder text) {
            int n = names.size();
            unlike = new int[n][n];
            for (int i = 0; i < n; i++) {
                for (int j = 0; j < n; j++) {
                    unlike[i][j] = i == j ? 0 : 100;
                }
            }
            for (int i = 0; n > 0 && i < random.nextInt(16); i++) {
                int a = random.nextInt(n);
                int b = random.nextInt(n);
                int much = random.nextInt(100);
                if (a != b) {
                    unlike[a][b] = much;
                    unlike[b][a] = much;
                    text.append("like ").append(names.get(a)).append(' ').append(names.get(b)).append(' ').append(much).append(';');
                }
            }
        }

        void tellLine(StringBuilder text) {
            List<Integer> rest = new ArrayList<>();
            for (int i = 0; i < kinds(); i++) {
                for (int j = 0; j < number.get(i); j++) {
                    rest.add(i);
                }
            }
            int many = rest.isEmpty() || random.nextInt(4) == 0 ? 0 : random.nextInt(rest.size() + 1);
            text.append("line");
            for (int i = 0; i < many; i++) {
                int k = rest.remove(random.nextInt(rest.size()));
                line.add(k);
                text.append(side.get(k) == 2 ? " right " : " ").append(names.get(nameOf.get(k)));
            }
            text.append(';');
        }

        void tellLose(StringBuilder text) {
            if (random.nextInt(4) == 0) {
                return;
            }
            text.append("lose=");
            for (int i = random.nextInt(5); i > 0; i--) {
                Term[] parts = {Term.any(random, 1), Term.any(random, 1), Term.any(random, 1)};
                cases.add(parts);
                text.append("if ").append(parts[0].text()).append('<').append(parts[1].text());
                text.append(" then ").append(parts[2].text()).append(" else ");
            }
            last = Term.any(random, 0);
            text.append(last.text()).append(';');
        }

        void play(int most) {
            if (run % 4 == 2) {
                checkTold();
            }
            while (calls < most) {
                step();
            }
        }

        void checkTold() {
            for (int i = 0; i < kinds(); i++) {
                due("kind(" + i + ", 2)", x.kind(i, 2), number.get(i));
                due("kind(" + i + ", 3)", x.kind(i, 3), partner(i));
                due("kind(" + i + ", 5)", x.kind(i, 5), nameOf.get(i));
            }
            for (int i = -1; i <= names.size(); i++) {
                for (int j = -1; j <= names.size(); j++) {
                    boolean both = i >= 0 && j >= 0 && i < names.size() && j < names.size();
                    due("unlike(" + i + ", " + j + ")", x.unlike(i, j), both ? unlike[i][j] : -1);
                }
            }
        }

        int partner(int kind) {
            return side.get(kind) == 0 ? kind : side.get(kind) == 1 ? kind + 1 : kind - 1;
        }

        static int sum(int[] row) {
            int sum = 0;
            for (int n : row) {
                sum += n;
            }
            return sum;
        }

        void step() {
            int kind = random.nextInt(kinds() + 2) - 1;
            switch (random.nextInt(drawing && random.nextInt(8) != 0 ? 10 : 27)) {
                case 0: case 1: case 2: case 3: due("draw(" + kind + ")", x.draw(kind), draw(kind)); break;
                case 4: case 5: case 6: due("lot()", x.lot(), lot()); break;
                case 7: case 8: due("take(" + kind + ")", x.take(kind) ? 1 : 0, take(kind)); break;
                case 9: due("undo()", x.undo() ? 1 : 0, undo()); break;
                case 10: holdOrRestore(); break;
                case 11: case 12: orders(); break;
                case 13: evening(); break;
                case 14: if (random.nextInt(8) == 0) { soonest(); } break;
                case 15: case 16: lineAndExchange(); break;
                case 17: odd(); break;
                case 18: lost(); break;
                case 19: years(); break;
                case 20: case 21: see(kind); break;
                case 22: case 23: rows(kind); break;
                default: look(kind);
            }
        }

        int draw(int kind) {
            if (kind < 0 || kind >= kinds() || now.bag[kind] == 0) {
                return -1;
            }
            if (now.stopped) {
                return 3;
            }
            keep();
            return drawOn(now, kind, full);
        }

        void keep() {
            past.add(now.copy());
            if (past.size() > 40) {
                past.remove(0);
            }
        }

        int drawOn(Now on, int kind, int way) {
            on.draws++;
            on.bag[kind]--;
            if (on.table[partner(kind)] > 0) {
                on.table[partner(kind)]--;
                on.rolled[nameOf.get(kind)]++;
                return 1;
            }
            if (sum(on.table) < room) {
                on.table[kind]++;
                return 0;
            }
            if (way < 2) {
                on.bag[kind]++;
                on.stopped = way == 1;
                return 2;
            }
            int goes = -1;
            for (int k = kinds() - 1; k >= 0; k--) {
                if (on.table[k] == 0) {
                    continue;
                }
                int a = on.bag[partner(k)];
                int b = goes < 0 ? 0 : on.bag[partner(goes)];
                if (goes < 0 || a == b || (way == 2 ? a < b : a > b)) {
                    goes = k;
                }
            }
            on.table[goes]--;
            on.bag[goes]++;
            on.table[kind]++;
            return 2;
        }

        static int chance(int n, int seed, int which) {
            long h = seed;
            for (long it : new long[] {26, which}) {
                h = ((h ^ it) * 1103515245L + 12345L) & 0xffffffffL;
                h = h ^ (h / 32768);
            }
            return (int) (h / 2 % n);
        }

        int picked(Now on, int itsSeed) {
            int rest = chance(sum(on.bag), itsSeed, on.draws);
            int kind = 0;
            while (rest >= on.bag[kind]) {
                rest -= on.bag[kind];
                kind++;
            }
            return kind;
        }

        int lot() {
            if (sum(now.bag) == 0) {
                return -2;
            }
            if (now.stopped) {
                return 3;
            }
            int kind = picked(now, seed);
            keep();
            return 10 * kind + drawOn(now, kind, full);
        }

        int take(int kind) {
            if (kind < 0 || kind >= kinds() || now.table[kind] == 0) {
                return 0;
            }
            keep();
            now.table[kind]--;
            now.bag[kind]++;
            now.stopped = false;
            return 1;
        }

        int undo() {
            if (past.isEmpty()) {
                return 0;
            }
            now = past.remove(past.size() - 1);
            return 1;
        }

        void holdOrRestore() {
            int slot = random.nextInt(5) - 1;
            boolean there = slot >= 0 && slot < 3;
            if (random.nextInt(3) != 0) {
                due("hold(" + slot + ")", x.hold(slot) ? 1 : 0, there ? 1 : 0);
                if (there) {
                    slots[slot] = now.copy();
                }
                return;
            }
            there = there && slots[slot] != null;
            due("restore(" + slot + ")", x.restore(slot) ? 1 : 0, there ? 1 : 0);
            if (there) {
                now = slots[slot].copy();
                past.clear();
            }
        }

        int lying(int[] table) {
            return sum(table);
        }

        /** How many orders have which most, counted from the bag and table as they are. */
        long[] mostsFrom(int[] bag, int[] table, Map<String, long[]> known) {
            StringBuilder key = new StringBuilder();
            for (int i = 0; i < bag.length; i++) {
                key.append(bag[i]).append(' ').append(table[i]).append(' ');
            }
            long[] old = known.get(key.toString());
            if (old != null) {
                return old;
            }
            long[] mosts = new long[19];
            if (sum(bag) == 0) {
                mosts[0] = 1;
            }
            for (int k = 0; k < bag.length; k++) {
                if (bag[k] == 0) {
                    continue;
                }
                int[] b = bag.clone();
                int[] t = table.clone();
                b[k]--;
                int p = partner(k);
                if (t[p] > 0) {
                    t[p]--;
                } else {
                    t[k]++;
                }
                long[] further = mostsFrom(b, t, known);
                for (int m = 0; m < 19; m++) {
                    mosts[Math.max(m, lying(t))] += bag[k] * further[m];
                }
            }
            known.put(key.toString(), mosts);
            return mosts;
        }

        long liesFrom(int[] bag, int[] table, int k) {
            if (k == 0) {
                long orders = 1;
                for (int i = 2; i <= sum(bag); i++) {
                    orders *= i;
                }
                return orders * lying(table);
            }
            long all = 0;
            for (int i = 0; i < bag.length; i++) {
                if (bag[i] > 0) {
                    int[] b = bag.clone();
                    int[] t = table.clone();
                    b[i]--;
                    t[t[partner(i)] > 0 ? partner(i) : i] += t[partner(i)] > 0 ? -1 : 1;
                    all += bag[i] * liesFrom(b, t, k - 1);
                }
            }
            return all;
        }

        void orders() {
            int n = sum(now.bag);
            if (n > 9 && random.nextInt(30) != 0) {
                return;
            }
            long[] mosts = mostsFrom(now.bag, now.table, new HashMap<>());
            int first = random.nextInt(3);
            long early = first == 0 ? x.mosts() : first == 1 ? x.sure(1, 2) : x.lies(n);
            long sofar = 0;
            long all = 0;
            long weighed = 0;
            int a = random.nextInt(101);
            int b = random.nextInt(101);
            int sure = -1;
            for (int t = 0; t < 19; t++) {
                all += mosts[t];
                weighed += t * mosts[t];
            }
            for (int t = 0; t < 19; t++) {
                sofar += mosts[t];
                due("within(" + t + ")", x.within(t), sofar);
                if (sure < 0 && sofar * (double) b >= all * (double) a - 0.5 && sofar * b >= all * a) {
                    sure = t;
                }
            }
            due("within(19)", x.within(19), -1);
            due("asked first", early, first == 0 ? x.mosts() : first == 1 ? x.sure(1, 2) : x.lies(n));
            due("mosts()", x.mosts(), weighed);
            due("sure(" + a + ", " + b + ")", x.sure(a, b), b < 1 || b > 99 || a > b ? -1 : sure);
            int k = random.nextInt(Math.min(n, 4) + 1);
            due("lies(" + k + ")", x.lies(k), liesFrom(now.bag, now.table, k));
            if (n <= 5) {
                due("lies(" + n + ")", x.lies(n), liesFrom(now.bag, now.table, n));
            }
            due("lies(" + (n + 1) + ")", x.lies(n + 1), -1);
        }

        int eveningOf(Now on, int way, int itsSeed, int most) {
            int draws = 0;
            while (draws < most && sum(on.bag) > 0 && !on.stopped) {
                drawOn(on, picked(on, itsSeed), way);
                draws++;
            }
            return draws;
        }

        void evening() {
            int most = 1 + random.nextInt(random.nextBoolean() ? 10 : 500);
            due("evening(" + most + ")", x.evening(most), eveningOf(now.copy(), full, seed, most));
        }

        void soonest() {
            int n = 1 + random.nextInt(30);
            int best = -1;
            int bestSum = Integer.MAX_VALUE;
            for (int way = 3; way >= 0; way--) {
                int sum = 0;
                for (int s = n - 1; s >= 0; s--) {
                    Now on = now.copy();
                    int draws = eveningOf(on, way, s, 200);
                    sum += sum(on.bag) == 0 ? draws : 500;
                }
                if (sum <= bestSum) {
                    best = way;
                    bestSum = sum;
                }
            }
            due("soonest(" + n + ", 0)", x.soonest(n, 0), best);
            due("soonest(" + n + ", 1)", x.soonest(n, 1), bestSum);
        }

        int mostOf(List<Integer> row) {
            List<Integer> out = new ArrayList<>();
            int most = 0;
            for (int i = row.size() - 1; i >= 0; i--) {
                if (!out.remove((Integer) partner(row.get(i)))) {
                    out.add(row.get(i));
                }
                most = Math.max(most, out.size());
            }
            return most;
        }

        void lineAndExchange() {
            int most = mostOf(line);
            due("line()", x.line(), most);
            int places = -2;
            int best = most;
            for (int i = 0; i < line.size(); i++) {
                for (int j = i + 1; j < line.size(); j++) {
                    List<Integer> other = new ArrayList<>(line);
                    other.set(i, line.get(j));
                    other.set(j, line.get(i));
                    int then = mostOf(other);
                    if (then < best) {
                        best = then;
                        places = i * 100 + j;
                    }
                }
            }
            due("exchange(0)", x.exchange(0), places);
            due("exchange(1)", x.exchange(1), best);
        }

        /** The best of all ways to pair what lies there, as 1000 a pair less how unlike they are. */
        int bestPairs(List<Integer> things) {
            if (things.isEmpty()) {
                return 0;
            }
            List<Integer> rest = new ArrayList<>(things);
            int first = rest.remove(0);
            int best = bestPairs(rest);
            for (int i = 0; i < rest.size(); i++) {
                int other = rest.get(i);
                boolean socks = side.get(first) == 0 && side.get(other) == 0;
                boolean gloves = side.get(first) + side.get(other) == 3 && side.get(first) != 0 && side.get(other) != 0;
                int much = unlike[nameOf.get(first)][nameOf.get(other)];
                if ((socks || gloves) && much <= near) {
                    List<Integer> without = new ArrayList<>(rest);
                    without.remove(i);
                    best = Math.max(best, 1000 - much + bestPairs(without));
                }
            }
            return best;
        }

        void odd() {
            List<Integer> things = new ArrayList<>();
            for (int i = 0; i < kinds(); i++) {
                for (int j = 0; j < now.table[i]; j++) {
                    things.add(i);
                }
            }
            if (things.size() > 9) {
                return;
            }
            int best = bestPairs(things);
            int pairs = (best + 999) / 1000;
            due("odd(0)", x.odd(0), pairs);
            due("odd(1)", x.odd(1), pairs * 1000 - best);
        }

        int without(int[] there) {
            int sum = 0;
            for (int i = 0; i < kinds(); i++) {
                sum += side.get(i) == 0 ? there[i] % 2 : side.get(i) == 1 ? Math.abs(there[i] - there[i + 1]) : 0;
            }
            return sum;
        }

        void losses(int[] there, int kind, int thing, long weight, int a, int b, long[] ways) {
            if (kind == kinds()) {
                ways[without(there)] += weight;
                return;
            }
            if (thing == now.bag[kind] + now.table[kind]) {
                losses(there, kind + 1, 0, weight, a, b, ways);
                return;
            }
            losses(there, kind, thing + 1, weight * a, a, b, ways);
            there[kind]++;
            losses(there, kind, thing + 1, weight * (b - a), a, b, ways);
            there[kind]--;
        }

        void lost() {
            if (sum(now.bag) + sum(now.table) > 10) {
                return;
            }
            int b = 1 + random.nextInt(9);
            int a = random.nextInt(b + 1);
            long[] ways = new long[19];
            losses(new int[kinds()], 0, 0, 1, a, b, ways);
            for (int w = 0; w < 19; w++) {
                due("lost(" + w + ", " + a + ", " + b + ")", x.lost(w, a, b), ways[w]);
            }
        }

        int lose(Map<String, Integer> given) {
            try {
                for (Term[] parts : cases) {
                    if (parts[0].value(given) < parts[1].value(given)) {
                        return parts[2].value(given);
                    }
                }
                return last.value(given);
            } catch (IllegalStateException dividesByZero) {
                return 0;
            }
        }

        void years() {
            if (random.nextInt(5) != 0) {
                return;
            }
            int n = 1 + random.nextInt(random.nextInt(3) == 0 ? 200 : 12);
            List<int[]> things = new ArrayList<>();
            int[] left = new int[kinds()];
            int all = 0;
            for (int i = 0; i < kinds(); i++) {
                left[i] = number.get(i);
                for (int j = 0; j < left[i]; j++) {
                    things.add(new int[] {i, all++});
                }
            }
            int first = -2;
            for (int week = 0; week < n; week++) {
                for (int i = 0; i < things.size(); i++) {
                    int which = week * 20 + things.get(i)[1];
                    int kind = things.get(i)[0];
                    Map<String, Integer> given = new HashMap<>();
                    given.put("week", week);
                    given.put("kind", kind);
                    given.put("there", left[kind]);
                    given.put("all", things.size());
                    given.put("lot", chance(100, seed, which));
                    if (chance(1000, seed, which) < lose(given)) {
                        things.remove(i--);
                        left[kind]--;
                        first = first < 0 ? week : first;
                    }
                }
            }
            int pairs = 0;
            for (int i = 0; i < kinds(); i++) {
                pairs += side.get(i) == 0 ? left[i] / 2 : side.get(i) == 1 ? Math.min(left[i], left[i + 1]) : 0;
            }
            due("years(" + n + ", 0)", x.years(n, 0), things.size());
            due("years(" + n + ", 1)", x.years(n, 1), pairs);
            due("years(" + n + ", 2)", x.years(n, 2), first);
        }

        void see(int kind) {
            if (random.nextInt(12) == 0) {
                due("forget()", x.forget(), seen.size());
                seen.clear();
                return;
            }
            int many = random.nextInt(3) == 0 ? random.nextInt(21) - 1 : random.nextInt(3);
            boolean can = kind >= 0 && kind < kinds() && many >= 0 && many <= 18 && seen.size() < 20;
            due("see(" + kind + ", " + many + ")", x.see(kind, many), can ? seen.size() : -1);
            if (can) {
                seen.add(new int[] {kind, many});
            }
        }

        void allRows(int[] row, int kind, int n, int k, List<int[]> found) {
            if (kind == kinds()) {
                if (n == 0 && fits(row, k)) {
                    found.add(row.clone());
                }
                return;
            }
            for (int i = 0; i <= number.get(kind) && i <= n; i++) {
                row[kind] = i;
                allRows(row, kind + 1, n - i, k, found);
            }
        }

        boolean fits(int[] row, int k) {
            for (int i = 0; i < k; i++) {
                int kind = seen.get(i)[0];
                int out = side.get(kind) == 0 ? row[kind] % 2 : Math.max(0, row[kind] - row[partner(kind)]);
                if (out != seen.get(i)[1]) {
                    return false;
                }
            }
            return true;
        }

        void rows(int kind) {
            int k = random.nextInt(3) == 0 ? random.nextInt(23) - 1 : random.nextInt(Math.min(3, seen.size() + 1));
            int n = random.nextInt(21) - 1;
            if (k < 0 || k > seen.size() || n < 0 || n > 18) {
                due("rows(" + k + ", " + n + ")", x.rows(k, n), -1);
                due("span(" + k + ", " + n + ", " + kind + ")", x.span(k, n, kind), -1);
                return;
            }
            List<int[]> found = new ArrayList<>();
            allRows(new int[kinds()], 0, n, k, found);
            due("rows(" + k + ", " + n + ")", x.rows(k, n), found.size());
            int want = -1;
            if (kind >= 0 && kind < kinds()) {
                int least = 99;
                int most = -1;
                for (int[] row : found) {
                    least = Math.min(least, row[kind]);
                    most = Math.max(most, row[kind]);
                }
                want = found.isEmpty() ? -2 : 100 * least + most;
            }
            due("span(" + k + ", " + n + ", " + kind + ")", x.span(k, n, kind), want);
        }

        void look(int kind) {
            boolean is = kind >= 0 && kind < kinds();
            due("kind(" + kind + ", 0)", x.kind(kind, 0), is ? now.bag[kind] : -1);
            due("kind(" + kind + ", 1)", x.kind(kind, 1), is ? now.table[kind] : -1);
            due("kind(" + kind + ", 4)", x.kind(kind, 4), is ? now.rolled[nameOf.get(kind)] : -1);
            due("kind(" + kind + ", 6)", x.kind(kind, 6), -1);
            due("kind(" + kind + ", -1)", x.kind(kind, -1), -1);
            int all = 0;
            for (int n : number) {
                all += n;
            }
            int held = 0;
            for (Now slot : slots) {
                held += slot == null ? 0 : 1;
            }
            int[] counts = {kinds(), names.size(), all, sum(now.bag), sum(now.table), sum(now.rolled), room, full, now.draws,
                line.size(), near, 0, past.size(), seen.size(), held, -1};
            for (int i = 0; i < counts.length; i++) {
                due("count(" + i + ")", x.count(i), counts[i]);
            }
            due("count(-1)", x.count(-1), -1);
        }
    }
}
