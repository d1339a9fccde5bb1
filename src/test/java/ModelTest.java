import java.lang.reflect.Method;
import java.nio.charset.StandardCharsets;
import java.util.ArrayList;
import java.util.Arrays;
import java.util.HashMap;
import java.util.List;
import java.util.Map;
import java.util.Random;

/** Runs of random calls on the class and on PlainRoof, which must answer alike. */
public final class ModelTest {
    private static final String[] LAW_WORDS = {"builder", "pace", "tired", "part", "craft", "heavy", "left", "with", "hour", "mood"};
    private static final String[] ORDER_WORDS = {"hour", "done", "stood", "standing", "left 0", "left 1", "left 9", "tired 0", "tired 5", "at 0", "at 1"};
    private static final int[] ODD = {-1, 0, 1, -2, 2, 5, 6, 9, 10, 99, 100, 1000, Integer.MAX_VALUE, Integer.MIN_VALUE};

    private final Random random;
    private final Map<String, Method> real = new HashMap<>();
    private final Map<String, Method> plain = new HashMap<>();
    private final SunriseRoof roof = new SunriseRoof();
    private final PlainRoof model = new PlainRoof();
    private final List<String> log = new ArrayList<>();
    private int partsMeant;
    private int buildersMeant;
    /** Numbers are mostly the least and the most that can be, or next to these. */
    private boolean atEdges = false;
    private boolean wrong = false;
    private int calls = 0;

    private ModelTest(long seed) {
        random = new Random(seed);
        for (Method m : SunriseRoof.class.getDeclaredMethods()) {
            if (java.lang.reflect.Modifier.isPublic(m.getModifiers())) real.put(m.getName(), m);
        }
        for (Method m : PlainRoof.class.getDeclaredMethods()) {
            if (java.lang.reflect.Modifier.isPublic(m.getModifiers())) plain.put(m.getName(), m);
        }
    }

    private long call(String name, int... arguments) {
        Object[] given = Arrays.stream(arguments).boxed().toArray();
        log.add(name + Arrays.toString(arguments));
        calls++;
        try {
            long got = ((Number) real.get(name).invoke(roof, given)).longValue();
            long want = ((Number) plain.get(name).invoke(model, given)).longValue();
            if (got != want) {
                wrong = true;
                System.out.println(String.join("; ", log.subList(Math.max(0, log.size() - 60), log.size())));
                System.out.println("answered " + got + ", the plain one " + want);
            }
            return got;
        } catch (ReflectiveOperationException e) {
            wrong = true;
            System.out.println(log + " threw");
            e.printStackTrace(System.out);
            return 0;
        }
    }

    private int odd(int bound) {
        return random.nextInt(12) == 0 ? ODD[random.nextInt(ODD.length)] : random.nextInt(Math.max(1, bound));
    }

    /** The least, the most, one beside these, or one between. */
    private int edge(int least, int most) {
        int[] edges = {least, most, least, most, least + 1, most - 1, least - 1, most + 1};
        int kind = random.nextInt(12);
        return kind < edges.length ? edges[kind] : least + random.nextInt(most - least + 1);
    }

    private String blank() {
        return random.nextInt(6) == 0 ? "  " : " ";
    }

    private String operand(boolean orders, int depth) {
        int kind = random.nextInt(depth > 0 ? 7 : 6);
        if (kind == 6) return "[" + sum(orders, depth - 1) + "]";
        if (kind < 3) return Integer.toString(random.nextInt(40) == 0 ? 998 + random.nextInt(4) : random.nextInt(12));
        String[] words = orders ? ORDER_WORDS : LAW_WORDS;
        return words[random.nextInt(words.length)];
    }

    private String sum(boolean orders, int depth) {
        StringBuilder all = new StringBuilder(operand(orders, depth));
        int more = random.nextInt(3);
        for (int i = 0; i < more && random.nextInt(3) > 0; i++) {
            all.append(random.nextBoolean() ? "" : blank()).append("+-*/%".charAt(random.nextInt(5))).append(operand(orders, depth));
        }
        return all.toString();
    }

    private String test(boolean orders, int depth) {
        int kind = random.nextInt(depth > 0 ? 8 : 4);
        if (kind == 4) return "not " + test(orders, depth - 1);
        if (kind == 5) return "(" + test(orders, depth - 1) + ")";
        if (kind == 6) return test(orders, depth - 1) + " and " + test(orders, depth - 1);
        if (kind == 7) return test(orders, depth - 1) + " or " + test(orders, depth - 1);
        return sum(orders, depth) + "<>=".charAt(random.nextInt(3)) + sum(orders, depth);
    }

    private String clause(boolean orders) {
        String text;
        if (!orders) {
            int kind = random.nextInt(7);
            text = kind < 3 ? "works " + sum(false, 2) : kind < 5 ? "tires " + sum(false, 2) : kind == 5 ? "shows " + sum(false, 2) : "bars";
            if (kind == 6 || random.nextInt(3) > 0) text += " if " + test(false, 2);
            return text;
        }
        int kind = random.nextInt(10);
        if (kind < 5) {
            text = "send " + (random.nextInt(4) == 0 ? sum(true, 1) : random.nextInt(buildersMeant + 1)) + " to "
                + (random.nextInt(4) == 0 ? sum(true, 1) : random.nextInt(partsMeant + 1));
        } else if (kind < 8) {
            text = "tick";
        } else {
            text = (kind == 8 ? "rest " : "throw ") + (random.nextInt(4) == 0 ? sum(true, 1) : random.nextInt(partsMeant + 1));
        }
        if (random.nextInt(4) == 0) text += " times " + (random.nextInt(12) == 0 ? random.nextInt(25) : 1 + random.nextInt(4));
        if (random.nextInt(3) == 0) text += " if " + test(true, 2);
        return text;
    }

    /** A SUM of about as many operands or brackets as there may be. */
    private String longSum(boolean orders) {
        if (random.nextBoolean()) {
            int deep = 7 + random.nextInt(3);
            return Check.times("[", deep) + sum(orders, 0) + Check.times("]", deep);
        }
        StringBuilder all = new StringBuilder(operand(orders, 0));
        int more = 47 + random.nextInt(4);
        for (int i = 0; i < more; i++) {
            all.append("+-*/%".charAt(random.nextInt(5))).append(random.nextInt(4) == 0 ? operand(orders, 0) : Integer.toString(random.nextInt(10)));
        }
        return all.toString();
    }

    private String edgeText(boolean orders) {
        String sum = longSum(orders);
        switch (random.nextInt(4)) {
            case 0: return (orders ? "rest " : "works ") + sum;
            case 1: return (orders ? "tick times " + edge(1, 20) + " if " : "bars if ") + sum + "<" + random.nextInt(9);
            case 2: {
                int deep = random.nextInt(3);
                return (orders ? "tick if " : "shows 3 if ") + Check.times("(", deep) + "hour>" + sum + Check.times(")", deep);
            }
            default: {
                String head = orders ? "tick times 20" : "tires 0";
                return Check.times(head + ";", 10 + random.nextInt(3)) + head;
            }
        }
    }

    private String text(boolean orders) {
        if (atEdges && random.nextInt(3) == 0) return edgeText(orders);
        int clauses = random.nextInt(30) == 0 ? 11 + random.nextInt(4) : 1 + random.nextInt(orders ? 5 : 7);
        StringBuilder all = new StringBuilder();
        for (int i = 0; i < clauses; i++) {
            all.append(i == 0 ? "" : random.nextBoolean() ? ";" : " ; ").append(clauses > 10 && orders ? "tick" : clauses > 10 ? "bars if hour>900" : clause(orders));
        }
        int hurt = random.nextInt(8);
        if (hurt == 0) all.setLength(random.nextInt(all.length() + 1));
        if (hurt == 1) all.setCharAt(random.nextInt(all.length()), (char) random.nextInt(256));
        if (hurt == 2) all.insert(random.nextInt(all.length()), new String[] {"not ", "(", "]", ";", " 1001 ", "if ", "times 3", " or ", "0"}[random.nextInt(9)]);
        return all.toString();
    }

    private void feed(byte[] bytes) {
        int had = (int) call("count", 6);
        for (int from = 0; from < bytes.length; from += 20) {
            int[] n = Check.numbers(bytes, from);
            call("feed", n[0], n[1], n[2], n[3], n[4]);
        }
        call("end", had + bytes.length);
    }

    private void speak(boolean orders) {
        if (random.nextInt(10) > 0) call("end", 0);
        String text = text(orders);
        feed(text.getBytes(StandardCharsets.ISO_8859_1));
        log.add("\"" + text + "\"");
        call(orders ? "orders" : "law");
        call("fault");
        call("stopped");
        if (!orders && random.nextInt(2) == 0) call("force", (int) call("count", 4) - 1);
    }

    private void writeRow() {
        byte[] bytes = new byte[random.nextInt(14)];
        for (int i = 0; i < bytes.length; i++) {
            int[] bounds = {25, 8, 5, 11};
            bytes[i] = (byte) random.nextInt(bounds[i % 4]);
        }
        call("end", 0);
        feed(bytes);
        call("row");
        call("chaff");
    }

    private void lookRound() {
        for (int p = -1; p <= 10; p++) {
            for (int w = -1; w <= 7; w++) call("of", p, w);
        }
        for (int b = -1; b <= 6; b++) {
            for (int w = -1; w <= 4; w++) call("at", b, w);
        }
        for (int w = -1; w <= 17; w++) call("count", w);
        for (int w = -1; w <= 2; w++) call("stands", w);
        call("longest");
        call("status");
    }

    private void reckon() {
        int kind = random.nextInt(8);
        if (kind == 0) for (int p = -2; p <= 10; p++) call("plan", p);
        if (kind == 1) for (int w = -1; w <= 2; w++) call("hands", w);
        if (kind == 2) for (int w = -1; w <= 3; w++) call("taught", w);
        if (kind == 3) call("unseen", odd(60));
        if (kind == 4) for (int i = -2; i < 4; i++) call("whose", i);
        if (kind == 5) for (int w = -1; w <= 2; w++) call("look", w);
        if (kind == 6 && roof.rows(-1, 0) <= 3000) {
            int n = (int) call("rows", -1, random.nextInt(12));
            for (int place = -1; place <= 10; place++) call("rows", random.nextInt(n), place);
            call("rows", n, 0);
            call("rows", -2, 0);
        }
        if (kind == 7) {
            call("nights", odd(1000001), 1 + random.nextInt(3));
            for (int k = -1; k <= 10; k++) for (int w = -1; w <= 2; w++) call("drawn", k, w);
        }
    }

    private void edgeStep() {
        int parts = roof.count(0);
        switch (random.nextInt(14)) {
            case 0: call("part", edge(1, 99), random.nextBoolean() ? edge(0, (1 << parts) - 1) : 0, edge(0, 3), edge(0, 9)); break;
            case 1: call("builder", edge(1, 15), edge(1, 9)); break;
            case 2: call("terms", 0, random.nextInt(3) == 0 ? edge(0, 999) : edge(990, 999)); break;
            case 3: call("terms", 1, edge(1, 99)); break;
            case 4: call("terms", 2, edge(0, 10)); break;
            case 5: call("terms", 3, edge(0, 9)); break;
            case 6: call("terms", edge(0, 3), edge(0, 9)); break;
            case 7: call("sight", edge(0, 99), edge(0, Math.max(1, parts - 1)), edge(0, 1)); break;
            case 8: call("nights", edge(0, 1000000), edge(1, random.nextInt(4) == 0 ? 20 : 2)); break;
            case 9: call("unseen", edge(0, 99)); break;
            case 10: call("image", edge(0, 1)); break;
            case 11: call("back", edge(0, 1)); break;
            case 12: call("end", edge(0, roof.count(6))); break;
            default: call("asks", edge(0, 5), edge(0, 9), edge(0, 3));
        }
    }

    private void step() {
        if (atEdges && random.nextInt(3) == 0) edgeStep();
        int parts = roof.count(0);
        int builders = roof.count(2);
        switch (random.nextInt(24)) {
            case 0: if (parts < partsMeant || random.nextInt(20) == 0) call("part", 1 + odd(14), random.nextInt(1 << parts) & random.nextInt(1 << parts), odd(4), odd(10)); break;
            case 1: if (builders < buildersMeant || random.nextInt(20) == 0) call("builder", 1 + odd(15), 1 + odd(5)); break;
            case 2: case 3: call("send", odd(builders), odd(parts)); break;
            case 4: call("rest", odd(builders)); break;
            case 5: call("throwDown", odd(parts)); break;
            case 6: case 7: case 8: call("tick"); break;
            case 9: call("undo"); break;
            case 10: if (random.nextInt(3) == 0) { int w = odd(4); call("terms", w, odd(w == 0 ? 1000 : w == 1 ? 50 : 11)); } break;
            case 11: speak(false); break;
            case 12: case 13: case 14: speak(true); break;
            case 15: call("force", odd(4)); break;
            case 16: call("sight", odd(30), odd(parts), odd(2)); break;
            case 17: if (random.nextInt(3) == 0) call("forget"); break;
            case 18: call("image", odd(2)); break;
            case 19: call("back", odd(2)); break;
            case 20: if (random.nextInt(4) == 0) writeRow(); break;
            case 21: for (int w = -1; w <= 4; w++) call("asks", odd(builders), odd(parts), w); break;
            case 22: for (int i = 0; i < 20; i++) call("undo"); break;
            default: reckon();
        }
        call("status");
    }

    private boolean run(int parts, int builders, int steps, boolean edges) {
        partsMeant = parts;
        atEdges = edges;
        buildersMeant = builders;
        for (int i = 0; i < parts && random.nextInt(8) > 0; i++) {
            call("part", 1 + random.nextInt(12), random.nextInt(1 << i) & random.nextInt(1 << i), random.nextInt(4), random.nextInt(10));
        }
        for (int i = 0; i < builders && random.nextInt(8) > 0; i++) {
            call("builder", 1 + random.nextInt(15), 1 + random.nextInt(4));
        }
        for (int i = 0; i < steps && !wrong; i++) {
            step();
        }
        if (!wrong) lookRound();
        return !wrong;
    }

    public static void main(String[] args) {
        int runs = args.length > 0 ? Integer.parseInt(args[0]) : 400;
        long calls = 0;
        for (int seed = 1; seed <= runs; seed++) {
            Random sizes = new Random(seed * 7919L);
            ModelTest test = new ModelTest(seed);
            boolean big = seed % 40 == 0;
            if (!test.run(big ? 10 : sizes.nextInt(7), big ? 5 : sizes.nextInt(4), big ? 40 : 100, seed % 3 == 0)) {
                System.out.println("seed " + seed);
                System.exit(1);
            }
            calls += test.calls;
        }
        System.out.println("ModelTest: " + runs + " runs, " + calls + " calls answered alike");
    }
}
