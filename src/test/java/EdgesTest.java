import java.util.List;
import java.util.Map;
import java.util.Set;
import java.util.TreeSet;

/**
 * Every call with numbers at the edges of its ranges, in every scene: the class must answer, or
 * refuse, what the Model does, which looks for its refusals in the document's order.
 */
public final class EdgesTest {
    private static final int MOST_CALLS = 512;

    private static int wrong = 0;
    private static int tried = 0;
    private static final Set<String> KINDS = new TreeSet<>();

    private final List<String> scene;
    private RollCalls object;
    private Model model;
    private int calls;

    private EdgesTest(List<String> scene) {
        this.scene = scene;
        begin();
    }

    public static void main(String[] args) {
        List<String> edges = Scenes.edges();
        for (Map.Entry<String, List<String>> scene : Scenes.all().entrySet()) {
            EdgesTest test = new EdgesTest(scene.getValue());
            for (String call : edges) {
                test.tryCall(scene.getKey(), call);
            }
        }
        System.out.println(tried + " calls at the edges, " + wrong + " wrong");
        if (KINDS.size() != RandomRunsTest.KINDS_OF_OUTCOMES) {
            System.out.println("but not each call came to each of its outcomes: " + KINDS);
            wrong++;
        }
        if (wrong > 0) {
            System.exit(1);
        }
    }

    private void begin() {
        object = new RollCalls();
        model = new Model();
        calls = scene.size();
        for (String call : scene) {
            if (Outcome.isRefusal(Outcome.ofWritten(object, call))) {
                wrong++;
                System.out.println("a scene's call is refused: " + call);
            }
            model.ofWritten(call);
        }
    }

    /** A refused call leaves the scene as it is; behind one that is taken it is set up anew. */
    private void tryCall(String name, String call) {
        String want = model.ofWritten(call);
        String got = Outcome.ofWritten(object, call);
        tried++;
        calls++;
        KINDS.add(Outcome.writtenName(call) + (Outcome.isRefusal(want) ? want : " answers"));
        if (!got.equals(want)) {
            wrong++;
            System.out.println(name + ": " + call + " comes to " + got + ", due is " + want);
        }
        if (!got.equals(want) || !Outcome.isRefusal(want) || calls == MOST_CALLS) {
            begin();
        }
    }
}
