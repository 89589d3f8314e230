import java.util.ArrayList;
import java.util.List;
import java.util.function.IntFunction;

/**
 * All that can be seen of a house: what each call answers for all arguments that could mean something, and how it
 * would go on. Each look is at a house of its own, and stays, with the way to it, within the 512 calls of an object.
 */
final class Looks {
    private static final int LOOKS = 11;
    private static final int MOST_CALLS = 512;

    /** What the document lets calls throw; what the machine itself throws is below these, or not among them. */
    private static final List<String> NAMED = List.of("throws " + Check.INDEX.getName(),
            "throws " + Check.ARGUMENT.getName(), "throws " + Check.STATE.getName());

    private final SurveyHouse house;
    private final List<String> seen;
    private int asked = 0;

    private Looks(SurveyHouse house, List<String> seen) {
        this.house = house;
        this.seen = seen;
    }

    /** What is seen at the end of that way, or, with a call, behind that call. */
    static List<String> at(Scene scene, Scene.Call call) {
        List<String> seen = new ArrayList<>();
        for (int number = 0; number < LOOKS; number++) {
            SurveyHouse house = scene.house();
            if (call != null) {
                Check.outcome(() -> call.on(house));
            }
            Looks look = new Looks(house, seen);
            look.look(number);
            if (scene.size() + 1 + look.asked > MOST_CALLS) {
                throw new IllegalStateException("look " + number + " asks more than an object is made for");
            }
        }
        return seen;
    }

    private String ask(String call, Check.Call action) {
        asked++;
        String answer = Check.outcome(action);
        if (answer.startsWith("throws") && !NAMED.contains(answer)) {
            throw new IllegalStateException(call + " " + answer + ", which is not for it to throw");
        }
        seen.add(call + " answered " + answer);
        return answer;
    }

    private void row(String name, int from, int to, IntFunction<Object> action) {
        for (int k = from; k <= to; k++) {
            int number = k;
            ask(name.replace("#", Integer.toString(number)), () -> action.apply(number));
        }
    }

    private void look(int number) {
        switch (number) {
            case 0:
                ground();
                break;
            case 1:
                people();
                break;
            case 2:
                interviews(0, 19);
                break;
            case 3:
                interviews(20, 39);
                break;
            case 4:
                given(0, 19);
                break;
            case 5:
                given(20, 39);
                break;
            case 6:
                questionnaire();
                break;
            case 7:
                shares();
                break;
            case 8:
                marks();
                break;
            case 9:
                reports();
                break;
            default:
                future();
        }
    }

    private void ground() {
        row("many(#)", 0, 11, w -> house.many(w));
        for (int cell = 0; cell < 6; cell++) {
            int a = cell / 2;
            int b = cell % 2;
            row("ofCell(" + a + ", " + b + ", #)", 0, 4, w -> house.ofCell(a, b, w));
        }
        ask("next()", () -> house.next());
        row("nextIn(#)", 0, 9, d -> house.nextIn(d));
        ask("off()", () -> house.off());
        row("offWith(#)", 0, 9, r -> house.offWith(r));
        ask("cleaned()", () -> house.cleaned());
        ask("meanSeconds()", () -> house.meanSeconds());
        ask("digest()", () -> house.digest());
    }

    private void people() {
        for (int p = 0; p < 24; p++) {
            int person = p;
            row("ofPerson(" + p + ", #)", 0, 5, w -> house.ofPerson(person, w));
        }
    }

    private void interviews(int from, int to) {
        for (int i = from; i <= to; i++) {
            int interview = i;
            row("ofInterview(" + i + ", #)", 0, 6, w -> house.ofInterview(interview, w));
        }
    }

    private void given(int from, int to) {
        for (int i = from; i <= to; i++) {
            int interview = i;
            row("given(" + i + ", #)", 0, 9, q -> house.given(interview, q));
        }
    }

    /** The last three change something, but tell what was there before. */
    private void questionnaire() {
        for (int q = 0; q < 10; q++) {
            int question = q;
            row("behind(" + q + ", #)", 0, 4, a -> house.behind(question, a));
        }
        row("shortest(#)", 0, 9, q -> house.shortest(q));
        ask("rotate(0)", () -> house.rotate(0));
        ask("soft(0)", () -> house.soft(0));
        ask("rounds(0)", () -> house.rounds(0));
    }

    private void shares() {
        for (int k = 0; k < 50; k++) {
            int q = k / 5;
            int answer = k % 5;
            row("share(" + q + ", " + answer + ", #)", -1, 2, a -> house.share(q, answer, a));
        }
    }

    private void marks() {
        for (int k = 0; k < 50; k++) {
            int q = k / 5;
            int answer = k % 5;
            row("isMarked(" + q + ", " + answer + ", #, the one behind it)", 0, 2,
                    a -> house.isMarked(q, answer, a, (a + 1) % 3));
        }
    }

    private void reports() {
        for (int k = 0; k < 50; k++) {
            int q = k / 5;
            int answer = k % 5;
            row("held(#, " + q + ", " + answer + ")", 0, 4, r -> house.held(r, q, answer));
        }
    }

    /** Each INTERVIEW goes on to its END, and then each PERSON is ASKED once more. */
    private void future() {
        for (int i = 0; i < 40; i++) {
            int interview = i;
            boolean goesOn = true;
            for (int k = 0; k < 10 && goesOn; k++) {
                String to = ask("answer(" + i + ", 0, 5)", () -> house.answer(interview, 0, 5));
                goesOn = !to.equals("-1") && !to.startsWith("throws");
            }
        }
        row("begin(#)", 0, 23, p -> house.begin(p));
        ask("question(2)", () -> house.question(2));
        ask("person(0, 0)", () -> house.person(0, 0));
        ask("hold()", () -> house.hold());
        ask("day()", () -> house.day());
        ask("clean()", () -> house.clean());
    }
}
