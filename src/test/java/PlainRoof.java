import java.util.ArrayDeque;
import java.util.ArrayList;
import java.util.Arrays;
import java.util.Deque;
import java.util.HashMap;
import java.util.List;
import java.util.Map;

/** The document once more, as plainly as can be and without regard to cost, to compare with. */
public final class PlainRoof {
    static final class Fault extends RuntimeException {
        final int place;
        Fault(int place) { this.place = place; }
    }

    interface Sum { Long of(Map<String, Long> words); }
    interface Test { Boolean of(Map<String, Long> words); }

    static final class Clause {
        String head;
        Sum first, second;
        int times = 1;
        Test test;
        boolean isSo(Map<String, Long> words) {
            return test == null || Boolean.TRUE.equals(test.of(words));
        }
    }

    static final class Part {
        int work, needs, craft, heavy, left;
        Part copy() { Part p = new Part(); p.work = work; p.needs = needs; p.craft = craft; p.heavy = heavy; p.left = left; return p; }
    }

    static final class Builder {
        int crafts, pace, tired, at = -1;
        Builder copy() { Builder b = new Builder(); b.crafts = crafts; b.pace = pace; b.tired = tired; b.at = at; return b; }
    }

    static final class State {
        List<Part> parts = new ArrayList<>();
        List<Builder> builders = new ArrayList<>();
        List<int[]> sights = new ArrayList<>();
        List<List<Clause>> laws = new ArrayList<>();
        int force = -1;
        int[] terms = {0, 30, 2, 0};

        State copy() {
            State s = new State();
            for (Part p : parts) s.parts.add(p.copy());
            for (Builder b : builders) s.builders.add(b.copy());
            s.sights.addAll(sights);
            s.laws.addAll(laws);
            s.force = force;
            s.terms = terms.clone();
            return s;
        }

        boolean stands(int p) { return parts.get(p).left == 0; }
        int standing() { int n = 0; for (Part p : parts) if (p.left == 0) n++; return n; }
        boolean all() { return standing() == parts.size(); }

        boolean ready(int p) {
            if (stands(p)) return false;
            for (int q = 0; q < p; q++) if ((parts.get(p).needs >> q & 1) == 1 && !stands(q)) return false;
            return true;
        }

        int chain(int p) {
            int most = 0;
            for (int q = 0; q < parts.size(); q++)
                if ((parts.get(q).needs >> p & 1) == 1 && !stands(q)) most = Math.max(most, chain(q));
            return parts.get(p).left + most;
        }

        Integer told(String head, int b, int p, int most) {
            if (force < 0) return null;
            Builder builder = builders.get(b);
            Part part = parts.get(p);
            Map<String, Long> w = new HashMap<>();
            long with = 0;
            for (int o = 0; o < builders.size(); o++) if (o != b && builders.get(o).at == p) with++;
            w.put("builder", (long) b);
            w.put("pace", (long) builder.pace);
            w.put("tired", (long) builder.tired);
            w.put("part", (long) p);
            w.put("craft", (builder.crafts & 1 << part.craft) != 0 ? 1L : 0L);
            w.put("heavy", (long) part.heavy);
            w.put("left", (long) part.left);
            w.put("with", with);
            w.put("hour", (long) terms[0]);
            w.put("mood", (long) terms[3]);
            Integer last = null;
            for (Clause c : laws.get(force)) {
                if (!c.head.equals(head) || !c.isSo(w)) continue;
                Long v = c.first == null ? Long.valueOf(1) : c.first.of(w);
                if (v != null) last = (int) Math.max(0, Math.min(most, v));
            }
            return last;
        }

        int works(int b, int p) {
            Integer told = told("works", b, p, 20);
            if (told != null) return told;
            return (builders.get(b).crafts & 1 << parts.get(p).craft) != 0 ? builders.get(b).pace : 0;
        }
        int tires(int b, int p) { Integer told = told("tires", b, p, 20); return told != null ? told : 1; }
        int shows(int b, int p) { Integer told = told("shows", b, p, 10); return told != null ? told : 1; }
        boolean barred(int b, int p) { return told("bars", b, p, 1) != null; }

        int tick() {
            State ahead = copy();
            for (int b = 0; b < builders.size(); b++) {
                Builder builder = builders.get(b);
                if (builder.at < 0) {
                    builder.tired = Math.max(0, builder.tired - 2);
                } else {
                    Part p = parts.get(builder.at);
                    p.left = Math.max(0, p.left - ahead.works(b, builder.at));
                    builder.tired = Math.min(99, builder.tired + ahead.tires(b, builder.at));
                }
            }
            for (Builder builder : builders) if (builder.at >= 0 && stands(builder.at)) builder.at = -1;
            terms[0]++;
            return standing() - ahead.standing();
        }

        void sendAll(int set) {
            for (int b = 0; b < builders.size(); b++) {
                if ((set >> b & 1) == 0 || builders.get(b).at >= 0) continue;
                int best = -1;
                for (int p = 0; p < parts.size(); p++) {
                    if (!ready(p) || barred(b, p) || works(b, p) < 1) continue;
                    if (best < 0 || chain(p) > chain(best)) best = p;
                }
                builders.get(b).at = best;
            }
        }

        State paper() {
            State s = copy();
            for (Builder b : s.builders) b.at = -1;
            return s;
        }

        /** The states behind 0, 1, .. ticks of a plan, till all stand or no tick can be. */
        List<State> walk(int set, int ticks) {
            List<State> states = new ArrayList<>();
            State s = paper();
            states.add(s.copy());
            for (int t = 0; t < ticks && !s.all() && s.terms[0] < 999; t++) {
                s.sendAll(set);
                s.tick();
                states.add(s.copy());
            }
            return states;
        }

        int ticks(int set, int limit) {
            List<State> states = walk(set, limit);
            return states.get(states.size() - 1).all() ? states.size() - 1 : -1;
        }
    }

    /** One of the two languages, read from its tokens. */
    static final class Texts {
        final List<String> tokens = new ArrayList<>();
        final List<Integer> places = new ArrayList<>();
        final boolean orders;
        int i = 0, operands = 0;

        Texts(byte[] bytes, boolean orders) {
            this.orders = orders;
            String s = new String(bytes, java.nio.charset.StandardCharsets.ISO_8859_1);
            java.util.regex.Matcher m = java.util.regex.Pattern.compile("[a-z]+|[0-9]+|[^ ]", java.util.regex.Pattern.DOTALL).matcher(s);
            while (m.find()) { tokens.add(m.group()); places.add(m.start()); }
            tokens.add("");
            places.add(s.length());
        }

        String now() { return tokens.get(i); }
        Fault fault() { return new Fault(places.get(i)); }
        boolean take(String t) { if (now().equals(t)) { i++; return true; } return false; }
        void must(String t) { if (!take(t)) throw fault(); }

        List<Clause> read() {
            List<Clause> clauses = new ArrayList<>();
            do {
                if (clauses.size() == 12) throw fault();
                clauses.add(clause());
            } while (take(";"));
            if (!now().isEmpty()) throw fault();
            return clauses;
        }

        Clause clause() {
            Clause c = new Clause();
            c.head = now();
            if (!orders) {
                if (take("works") || take("tires") || take("shows")) c.first = sum(0);
                else must("bars");
            } else {
                if (take("send")) { c.first = sum(0); must("to"); c.second = sum(0); }
                else if (take("rest") || take("throw")) c.first = sum(0);
                else must("tick");
                if (take("times")) c.times = number(1, 20);
            }
            if (take("if")) c.test = test(0);
            return c;
        }

        int number(int least, int most) {
            if (!now().matches("[0-9]+")) throw fault();
            java.math.BigInteger n = new java.math.BigInteger(now());
            if (n.compareTo(java.math.BigInteger.valueOf(least)) < 0 || n.compareTo(java.math.BigInteger.valueOf(most)) > 0) throw fault();
            i++;
            return n.intValue();
        }

        Test test(int depth) {
            List<Test> all = new ArrayList<>();
            do all.add(both(depth)); while (take("or"));
            return w -> {
                for (Test t : all) { Boolean v = t.of(w); if (v == null || v) return v; }
                return false;
            };
        }

        Test both(int depth) {
            List<Test> all = new ArrayList<>();
            do all.add(plain(depth)); while (take("and"));
            return w -> {
                for (Test t : all) { Boolean v = t.of(w); if (v == null || !v) return v; }
                return true;
            };
        }

        Test plain(int depth) {
            if (take("not")) {
                Test t = plain(depth);
                return w -> { Boolean v = t.of(w); return v == null ? null : Boolean.valueOf(!v); };
            }
            if (now().equals("(")) {
                if (depth == 8) throw fault();
                i++;
                Test t = test(depth + 1);
                must(")");
                return t;
            }
            Sum a = sum(depth);
            String sign = now();
            if (!take("<") && !take(">") && !take("=")) throw fault();
            Sum b = sum(depth);
            return w -> {
                Long x = a.of(w), y = b.of(w);
                if (x == null || y == null) return null;
                int c = x.compareTo(y);
                return sign.equals("<") ? c < 0 : sign.equals(">") ? c > 0 : c == 0;
            };
        }

        Sum sum(int depth) {
            Sum s = term(depth);
            while (now().equals("+") || now().equals("-")) {
                String sign = now();
                i++;
                s = join(sign, s, term(depth));
            }
            return s;
        }

        Sum term(int depth) {
            Sum s = operand(depth);
            while (now().equals("*") || now().equals("/") || now().equals("%")) {
                String sign = now();
                i++;
                s = join(sign, s, operand(depth));
            }
            return s;
        }

        static Sum join(String sign, Sum a, Sum b) {
            return w -> {
                Long x = a.of(w), y = b.of(w);
                if (x == null || y == null) return null;
                long v;
                switch (sign) {
                    case "+": v = x + y; break;
                    case "-": v = x - y; break;
                    case "*": v = x * y; break;
                    case "/": if (y == 0) return null; v = x / y; break;
                    default: if (y == 0) return null; v = x - x / y * y;
                }
                return Math.abs(v) > 1_000_000_000L ? null : Long.valueOf(v);
            };
        }

        Sum operand(int depth) {
            if (now().equals("[")) {
                if (depth == 8) throw fault();
                i++;
                Sum s = sum(depth + 1);
                must("]");
                return s;
            }
            if (operands == 50) throw fault();
            operands++;
            String t = now();
            if (t.matches("[0-9]+")) { long n = number(0, 1000); return w -> n; }
            List<String> words = orders ? Arrays.asList("hour", "done", "stood", "standing")
                : Arrays.asList("builder", "pace", "tired", "part", "craft", "heavy", "left", "with", "hour", "mood");
            if (words.contains(t)) { i++; return w -> w.get(t); }
            if (orders && Arrays.asList("left", "tired", "at").contains(t)) {
                i++;
                int n = number(0, t.equals("left") ? 9 : 5);
                return w -> w.get(t + " " + n);
            }
            throw fault();
        }
    }

    State state = new State();
    State[] images = new State[2];
    Deque<Object[]> undos = new ArrayDeque<>();
    java.io.ByteArrayOutputStream tape = new java.io.ByteArrayOutputStream();
    int fault = -1, chaff = 0, stopped = -1, status = 0;
    Map<Integer, Integer> refused = new HashMap<>();
    State night = null;

    int no(int by) { status = by; refused.merge(by, 1, Integer::sum); return by; }
    int yes(int v) { status = 0; return v; }
    boolean isPart(int p) { return p >= 0 && p < state.parts.size(); }
    boolean isBuilder(int b) { return b >= 0 && b < state.builders.size(); }
    byte[] takeTape() { byte[] b = tape.toByteArray(); tape.reset(); return b; }

    int add(int work, int needs, int craft, int heavy) {
        int n = state.parts.size();
        if (work < 1 || work > 99 || needs < 0 || needs >= 1 << n || craft < 0 || craft > 3 || heavy < 0 || heavy > 9) return -1;
        if (n == 10) return -5;
        Part p = new Part();
        p.work = p.left = work; p.needs = needs; p.craft = craft; p.heavy = heavy;
        state.parts.add(p);
        return n;
    }

    public int part(int work, int needs, int craft, int heavy) {
        int n = add(work, needs, craft, heavy);
        if (n < 0) return no(n);
        undos.clear();
        return yes(n);
    }

    public int of(int part, int what) {
        if (!isPart(part)) return -1;
        Part p = state.parts.get(part);
        int[] all = {p.work, p.needs, p.craft, p.heavy, p.left, state.ready(part) ? 1 : 0, state.chain(part)};
        return what < 0 || what > 6 ? -1 : all[what];
    }

    public int builder(int crafts, int pace) {
        if (crafts < 1 || crafts > 15 || pace < 1 || pace > 9) return no(-1);
        if (state.builders.size() == 6) return no(-5);
        Builder b = new Builder();
        b.crafts = crafts; b.pace = pace;
        state.builders.add(b);
        undos.clear();
        return yes(state.builders.size() - 1);
    }

    public int at(int builder, int what) {
        if (!isBuilder(builder)) return -1;
        Builder b = state.builders.get(builder);
        int[] all = {b.crafts, b.pace, b.tired, b.at};
        return what < 0 || what > 3 ? -1 : all[what];
    }

    public int asks(int builder, int part, int what) {
        if (!isBuilder(builder) || !isPart(part)) return -1;
        switch (what) {
            case 0: return state.works(builder, part);
            case 1: return state.tires(builder, part);
            case 2: return state.shows(builder, part);
            case 3: return state.barred(builder, part) ? 1 : 0;
            default: return -1;
        }
    }

    public int terms(int what, int value) {
        int[] least = {0, 1, 0, 0}, most = {999, 99, 10, 9};
        if (what < 0 || what > 3 || value < least[what] || value > most[what]) return no(-1);
        int was = state.terms[what];
        state.terms[what] = value;
        undos.clear();
        return yes(was);
    }

    public int feed(int a, int b, int c, int d, int e) {
        if (tape.size() + 20 > 400) return -1;
        java.nio.ByteBuffer buffer = java.nio.ByteBuffer.allocate(20);
        buffer.putInt(a).putInt(b).putInt(c).putInt(d).putInt(e);
        tape.writeBytes(buffer.array());
        return tape.size();
    }

    public int end(int n) {
        if (n < 0 || n > tape.size()) return -1;
        byte[] all = takeTape();
        tape.write(all, 0, n);
        return n;
    }

    public int row() {
        byte[] all = takeTape();
        if (all.length == 0) return no(-6);
        int came = 0;
        chaff = 0;
        for (int i = 0; i < all.length; i += 4) {
            if (i + 4 <= all.length && add(all[i] & 255, all[i + 1] & 255, all[i + 2] & 255, all[i + 3] & 255) >= 0) came++;
            else chaff++;
        }
        undos.clear();
        return yes(came);
    }

    public int chaff() { return chaff; }

    List<Clause> read(boolean orders) {
        try {
            List<Clause> clauses = new Texts(takeTape(), orders).read();
            fault = -1;
            return clauses;
        } catch (Fault f) {
            fault = f.place;
            return null;
        }
    }

    public int law() {
        if (state.laws.size() == 6) { takeTape(); return no(-5); }
        List<Clause> clauses = read(false);
        if (clauses == null) return no(-6);
        state.laws.add(clauses);
        return yes(state.laws.size() - 1);
    }

    public int orders() {
        stopped = -1;
        List<Clause> clauses = read(true);
        if (clauses == null) return no(-6);
        State ahead = state.copy();
        Deque<Object[]> undosAhead = new ArrayDeque<>(undos);
        int done = 0, stood = -1;
        for (int c = 0; c < clauses.size(); c++) {
            Clause clause = clauses.get(c);
            for (int t = 0; t < clause.times; t++) {
                Map<String, Long> w = new HashMap<>();
                w.put("hour", (long) state.terms[0]);
                w.put("done", (long) done);
                w.put("stood", (long) stood);
                w.put("standing", (long) state.standing());
                for (int k = 0; k < 10; k++) w.put("left " + k, isPart(k) ? state.parts.get(k).left : -1L);
                for (int k = 0; k < 6; k++) {
                    w.put("tired " + k, isBuilder(k) ? state.builders.get(k).tired : -1L);
                    w.put("at " + k, isBuilder(k) ? state.builders.get(k).at : -1L);
                }
                if (!clause.isSo(w)) continue;
                Long first = clause.first == null ? Long.valueOf(0) : clause.first.of(w);
                Long second = clause.second == null ? Long.valueOf(0) : clause.second.of(w);
                int told = -3;
                if (first != null && second != null) {
                    int a = first.intValue(), b = second.intValue();
                    told = clause.head.equals("send") ? doSend(a, b) : clause.head.equals("rest") ? doRest(a)
                        : clause.head.equals("throw") ? doThrow(a) : doTick();
                }
                if (told < 0) {
                    state = ahead;
                    undos = undosAhead;
                    stopped = c;
                    return no(-3);
                }
                if (clause.head.equals("tick")) stood = told;
                done++;
            }
        }
        return yes(done);
    }

    public int fault() { return fault; }
    public int stopped() { return stopped; }

    public int force(int law) {
        if (law < -1 || law >= state.laws.size()) return no(-2);
        int was = state.force;
        state.force = law;
        return yes(was);
    }

    public int stands(int what) {
        if (what != 0 && what != 1) return -1;
        int bits = 0;
        for (int p = 0; p < state.parts.size(); p++) if (what == 0 ? state.stands(p) : state.ready(p)) bits |= 1 << p;
        return bits;
    }

    void remember(int deed) {
        undos.addLast(new Object[] {deed, state.copy()});
        if (undos.size() > 16) undos.removeFirst();
    }

    int doSend(int b, int p) {
        if (!isBuilder(b) || !isPart(p)) return -2;
        if (!state.ready(p) || state.barred(b, p)) return -3;
        remember(0);
        state.builders.get(b).at = p;
        return state.parts.get(p).left;
    }

    int doRest(int b) {
        if (!isBuilder(b)) return -2;
        int was = state.builders.get(b).at;
        if (was < 0) return -3;
        remember(1);
        state.builders.get(b).at = -1;
        return was;
    }

    int doThrow(int p) {
        if (!isPart(p)) return -2;
        if (!state.stands(p)) return -3;
        for (int q = 0; q < state.parts.size(); q++) {
            Part part = state.parts.get(q);
            if ((part.needs >> p & 1) == 0) continue;
            if (part.left == 0 || part.left < part.work) return -3;
            for (Builder b : state.builders) if (b.at == q) return -3;
        }
        remember(2);
        return state.parts.get(p).left = state.parts.get(p).work;
    }

    int doTick() {
        if (state.terms[0] >= 999) return -3;
        remember(3);
        return state.tick();
    }

    int said(int v) { return v < 0 ? no(v) : yes(v); }
    public int send(int builder, int part) { return said(doSend(builder, part)); }
    public int rest(int builder) { return said(doRest(builder)); }
    public int throwDown(int part) { return said(doThrow(part)); }
    public int tick() { return said(doTick()); }

    public int undo() {
        if (undos.isEmpty()) return no(-3);
        Object[] latest = undos.removeLast();
        State was = (State) latest[1];
        state.parts = was.copy().parts;
        state.builders = was.copy().builders;
        state.terms[0] = was.terms[0];
        return yes((Integer) latest[0]);
    }

    public int longest() {
        int most = 0;
        for (int p = 0; p < state.parts.size(); p++) if (!state.stands(p)) most = Math.max(most, state.chain(p));
        return most;
    }

    void rowsFrom(List<Integer> row, List<List<Integer>> all, int[] total, int wanted) {
        boolean whole = true;
        for (int p = 0; p < state.parts.size(); p++) {
            if (state.stands(p) || row.contains(p)) continue;
            whole = false;
            boolean ready = true;
            for (int q = 0; q < p; q++)
                if ((state.parts.get(p).needs >> q & 1) == 1 && !state.stands(q) && !row.contains(q)) ready = false;
            if (!ready) continue;
            row.add(p);
            rowsFrom(row, all, total, wanted);
            row.remove(row.size() - 1);
        }
        if (whole) {
            if (total[0] == wanted) all.add(new ArrayList<>(row));
            total[0]++;
        }
    }

    public int rows(int i, int place) {
        List<List<Integer>> all = new ArrayList<>();
        int[] total = {0};
        rowsFrom(new ArrayList<>(), all, total, i);
        if (i == -1) return total[0];
        if (all.isEmpty() || place < 0 || place >= all.get(0).size()) return -1;
        return all.get(0).get(place);
    }

    public int plan(int part) {
        if (part == -1) return state.ticks(63, 200);
        if (!isPart(part)) return -1;
        List<State> states = state.walk(63, 200);
        for (int t = 0; t < states.size(); t++) if (states.get(t).stands(part)) return t;
        return -1;
    }

    public int hands(int what) {
        int best = -1;
        for (int set = 0; set < 1 << state.builders.size(); set++) {
            if (best >= 0 && Integer.bitCount(set) >= Integer.bitCount(best)) continue;
            if (state.ticks(set, state.terms[1]) >= 0) best = set;
        }
        return best < 0 ? -1 : what == 0 ? Integer.bitCount(best) : what == 1 ? best : -1;
    }

    public int taught(int what) {
        int without = state.ticks(63, 200);
        int soonest = without < 0 ? 201 : without;
        int[] best = {-1, -1, -1};
        for (int b = 0; b < state.builders.size(); b++) {
            for (int c = 0; c < 4; c++) {
                if ((state.builders.get(b).crafts >> c & 1) == 1) continue;
                State s = state.copy();
                s.builders.get(b).crafts |= 1 << c;
                int ticks = s.ticks(63, 200);
                if (ticks >= 0 && ticks < soonest) { soonest = ticks; best = new int[] {b, c, ticks}; }
            }
        }
        return what < 0 || what > 2 ? -1 : best[what];
    }

    public long unseen(int n) {
        if (n < 0 || n > 99) return -1;
        long chance = 1_000_000_000_000L;
        State s = state.paper();
        for (int t = 0; t < n && !s.all() && s.terms[0] < 999; t++) {
            s.sendAll(63);
            for (int b = 0; b < s.builders.size(); b++) {
                int p = s.builders.get(b).at;
                if (p >= 0) chance = chance * (10 - s.shows(b, p)) / 10;
            }
            s.tick();
        }
        return chance;
    }

    public int sight(int k, int part, int stood) {
        if (k < 0 || k > 99 || stood < 0 || stood > 1) return no(-1);
        if (!isPart(part)) return no(-2);
        if (state.sights.size() == 8) return no(-5);
        state.sights.add(new int[] {k, part, stood});
        return yes(state.sights.size());
    }

    public int forget() {
        int n = state.sights.size();
        state.sights.clear();
        return n;
    }

    static State behind(List<State> walk, int t) { return walk.get(Math.min(t, walk.size() - 1)); }

    Map<Integer, List<State>> suspects() {
        Map<Integer, List<State>> sets = new java.util.TreeMap<>();
        for (int set = 0; set < 1 << state.builders.size(); set++) {
            List<State> walk = state.walk(set, 99);
            boolean fits = true;
            for (int[] s : state.sights) if (behind(walk, s[0]).stands(s[1]) != (s[2] == 1)) fits = false;
            if (fits) sets.put(set, walk);
        }
        return sets;
    }

    public int whose(int i) {
        List<Integer> sets = new ArrayList<>(suspects().keySet());
        return i == -1 ? sets.size() : i < 0 || i >= sets.size() ? -1 : sets.get(i);
    }

    public int look(int what) {
        Map<Integer, List<State>> sets = suspects();
        if (sets.isEmpty() || what < 0 || what > 1) return -1;
        int best = -1, fewest = 1000;
        for (int t = 0; t <= 40; t++) {
            Map<Integer, Integer> groups = new HashMap<>();
            for (List<State> walk : sets.values()) groups.merge(behind(walk, t).standing(), 1, Integer::sum);
            int most = java.util.Collections.max(groups.values());
            if (most < fewest) { fewest = most; best = t; }
        }
        return what == 0 ? best : fewest;
    }

    public int nights(int seed, int n) {
        if (seed < 0 || seed > 1_000_000 || n < 1 || n > 20) return no(-1);
        long s = seed;
        int all = 0;
        for (int k = 0; k < n; k++) {
            night = state.paper();
            for (int t = 0; t < state.terms[1]; t++) {
                night.sendAll(63);
                s = (s * 1103 + 12345) % 1_000_003;
                if (s % 10 < state.terms[2]) night.terms[0]++;
                else night.tick();
            }
            if (night.all()) all++;
        }
        return yes(all);
    }

    public int drawn(int k, int what) {
        if (night == null || k < 0) return -1;
        if (what == 0) return k < night.parts.size() ? night.parts.get(k).left : -1;
        return what == 1 && k < night.builders.size() ? night.builders.get(k).tired : -1;
    }

    public int image(int k) {
        if (k < 0 || k > 1) return no(-1);
        images[k] = state.copy();
        return yes(0);
    }

    public int back(int k) {
        if (k < 0 || k > 1) return no(-1);
        if (images[k] == null) return no(-2);
        state = images[k].copy();
        undos.clear();
        return yes(0);
    }

    public int count(int what) {
        int[] all = {state.parts.size(), state.standing(), state.builders.size(), state.sights.size(), state.laws.size(),
            undos.size(), tape.size(), refused.getOrDefault(-1, 0), refused.getOrDefault(-2, 0), refused.getOrDefault(-3, 0),
            refused.getOrDefault(-5, 0), refused.getOrDefault(-6, 0), state.force,
            state.terms[0], state.terms[1], state.terms[2], state.terms[3]};
        return what < 0 || what >= all.length ? -1 : all[what];
    }

    public int status() { return status; }
}
