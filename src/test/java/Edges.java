import java.util.List;
import java.util.TreeMap;

/** Looks at the edges that the document names, sentence by sentence, and tells the sentence that is broken. */
final class Edges {
    static final Class<IndexOutOfBoundsException> INDEX = Check.INDEX;
    static final Class<IllegalArgumentException> ARGUMENT = Check.ARGUMENT;
    static final Class<IllegalStateException> STATE = Check.STATE;

    interface Numbered {
        Object on(SurveyHouse house, int number);
    }

    private final Check check;
    private final TreeMap<String, Integer> looked = new TreeMap<>();
    private String sentence = "";

    Edges(String name) {
        check = new Check(name);
    }

    /** The words of the document that the next calls are to show. */
    void sentence(String words) {
        sentence = words;
        looked.putIfAbsent(words, 0);
    }

    private String named(String call) {
        looked.merge(sentence, 1, Integer::sum);
        return "\"" + sentence + "\": " + call;
    }

    /** That is what the call answers at the end of that way. */
    void due(Scene scene, String call, Scene.Call ask, Object want) {
        String name = named(call);
        SurveyHouse house = scene.house();
        same(name, Check.outcome(() -> ask.on(house)), String.valueOf(want));
    }

    /** The call throws just that, and nothing has changed by it. */
    void refused(Scene scene, String call, Scene.Call ask, Class<? extends RuntimeException> want) {
        String name = named(call);
        SurveyHouse house = scene.house();
        same(name, Check.outcome(() -> ask.on(house)), "throws " + want.getName());
        unchanged(name, scene, ask);
    }

    /** The call answers that, and nothing has changed by it. */
    void asks(Scene scene, String call, Scene.Call ask, Object want) {
        due(scene, call, ask, want);
        unchanged(named(call), scene, ask);
    }

    /** Of all numbers, those from first to last are taken (none, if last is below first); others are refused. */
    void bounds(Scene scene, String call, int first, int last, Class<? extends RuntimeException> want, Numbered ask) {
        for (int k = first; k <= last; k++) {
            int number = k;
            SurveyHouse house = scene.house();
            String got = Check.outcome(() -> ask.on(house, number));
            same(named(with(call, number)), got.startsWith("throws") ? got : "taken", "taken");
        }
        for (int number : new int[] {first - 1, last + 1, Integer.MIN_VALUE, Integer.MAX_VALUE}) {
            refused(scene, with(call, number), h -> ask.on(h, number), want);
        }
    }

    private static String with(String call, int number) {
        return call.replace("#", Integer.toString(number));
    }

    private void same(String name, String got, String want) {
        check.due(name, 0, 0);
        if (!got.equals(want)) {
            check.tell(name, got, want);
        }
    }

    private void unchanged(String name, Scene scene, Scene.Call ask) {
        List<String> before = scene.seen();
        List<String> behind = Looks.at(scene, ask);
        for (int k = 0; k < before.size() || k < behind.size(); k++) {
            String then = k < behind.size() ? behind.get(k) : "nothing";
            String once = k < before.size() ? before.get(k) : "nothing";
            if (!then.equals(once)) {
                check.tell(name + " changed something: then " + then, "that", once);
                return;
            }
        }
    }

    void end() {
        for (String words : looked.keySet()) {
            if (looked.get(words) == 0) {
                check.tell("\"" + words + "\"", "no call was looked at", "at least one");
            }
        }
        System.out.print(looked.size() + " sentences; ");
        check.end();
    }
}
