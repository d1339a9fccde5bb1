import java.util.ArrayList;
import java.util.List;
import java.util.function.ToIntFunction;

/** What is on paper is of the state as it is now: behind each call it is as on an object that was never asked before. */
public final class PaperAnewTest {
    private static final List<String> NAMES = new ArrayList<>();
    private static final List<ToIntFunction<SunriseRoof>> CALLS = new ArrayList<>();

    private static void call(String name, ToIntFunction<SunriseRoof> made) {
        NAMES.add(name);
        CALLS.add(made);
    }

    private static int row(SunriseRoof x, int... numbers) {
        byte[] bytes = new byte[numbers.length];
        for (int i = 0; i < numbers.length; i++) {
            bytes[i] = (byte) numbers[i];
        }
        Check.feed(x, bytes);
        return x.row();
    }

    /** Each kind of call that changes the state, by each answer for which it might be taken for one that does not. */
    private static void calls() {
        call("part", x -> x.part(6, 0, 0, 3));
        call("builder", x -> x.builder(1, 2));
        call("part that needs", x -> x.part(4, 1, 1, 7));
        call("builder of another craft", x -> x.builder(2, 1));
        call("row", x -> row(x, 3, 1, 0, 9, 5, 0, 1, 2));
        call("row that adds none", x -> row(x, 0, 0, 0, 0));
        call("row of one", x -> row(x, 2, 4, 0, 5));
        call("terms: NIGHT", x -> x.terms(1, 6));
        call("image", x -> x.image(0));
        call("sight", x -> x.sight(3, 0, 1));
        call("sight that is late", x -> x.sight(90, 1, 1));
        call("send", x -> x.send(0, 0));
        call("tick that answers 0", SunriseRoof::tick);
        call("tick that answers 0 again", SunriseRoof::tick);
        call("undo of a tick", SunriseRoof::undo);
        call("tick", SunriseRoof::tick);
        call("tick in which one comes to stand", SunriseRoof::tick);
        call("undo", SunriseRoof::undo);
        call("rest that answers 0", x -> x.rest(0));
        call("undo of a rest", SunriseRoof::undo);
        call("tick once more", SunriseRoof::tick);
        call("throwDown", x -> x.throwDown(0));
        call("undo of a throwDown", SunriseRoof::undo);
        call("law", x -> Check.law(x, "works 1+heavy/3;tires 2;shows heavy"));
        call("force that answers NONE", x -> x.force(0));
        call("forget", SunriseRoof::forget);
        call("orders", x -> Check.orders(x, "send 0 to 3;send 1 to 1;tick"));
        call("orders that run none", x -> Check.orders(x, "tick if 1=2"));
        call("orders that can't be", x -> Check.orders(x, "tick;rest 5"));
        call("terms: MOOD", x -> x.terms(3, 4));
        call("another law", x -> Check.law(x, "works mood;bars if builder=0 and part=2"));
        call("force that answers 0", x -> x.force(1));
        call("terms: HOUR", x -> x.terms(0, 990));
        call("nights", x -> x.nights(77, 3));
        call("image 1", x -> x.image(1));
        call("back", x -> x.back(0));
        call("part behind back", x -> x.part(9, 0, 2, 1));
        call("back to 1", x -> x.back(1));
        call("force of none", x -> x.force(-1));
        call("a refused call", x -> x.part(0, 0, 0, 0));
        call("back to 0 again", x -> x.back(0));
        call("terms: HOUR 999", x -> x.terms(0, 999));
        call("terms: RAIN", x -> x.terms(2, 0));
        call("nights again", x -> x.nights(5, 1));
    }

    private static String paper(SunriseRoof x) {
        StringBuilder seen = new StringBuilder();
        seen.append(x.longest()).append(" rows ").append(x.rows(-1, 0)).append(' ').append(x.rows(1, 1)).append(" plan ").append(x.plan(-1));
        for (int p = 0; p < 6; p++) {
            seen.append(' ').append(x.plan(p)).append(' ').append(x.of(p, 6));
        }
        seen.append(" hands ").append(x.hands(0)).append(' ').append(x.hands(1));
        seen.append(" taught ").append(x.taught(0)).append(' ').append(x.taught(1)).append(' ').append(x.taught(2));
        seen.append(" unseen ").append(x.unseen(7)).append(" whose ").append(x.whose(-1)).append(' ').append(x.whose(1));
        return seen.append(" look ").append(x.look(0)).append(' ').append(x.look(1)).append(" drawn ").append(x.drawn(0, 0)).toString();
    }

    public static void main(String[] args) {
        calls();
        SunriseRoof asked = new SunriseRoof();
        int changes = 0;
        String ahead = paper(asked);
        for (int i = 0; i < CALLS.size(); i++) {
            int told = CALLS.get(i).applyAsInt(asked);
            SunriseRoof anew = new SunriseRoof();
            int toldAnew = 0;
            for (int j = 0; j <= i; j++) {
                toldAnew = CALLS.get(j).applyAsInt(anew);
            }
            Check.due(NAMES.get(i), told, toldAnew);
            String now = paper(asked);
            String due = paper(anew);
            Check.due("behind " + NAMES.get(i) + ": " + now + ", due is " + due, now.equals(due) ? 1 : 0, 1);
            changes += now.equals(ahead) ? 0 : 1;
            ahead = now;
        }
        Check.due("most of them change what is on paper", changes > 25 ? 1 : 0, 1);
        Check.finish("PaperAnewTest");
    }
}
