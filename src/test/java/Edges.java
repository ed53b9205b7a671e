import java.io.IOException;
import java.nio.file.Path;
import java.util.ArrayList;
import java.util.HashMap;
import java.util.List;
import java.util.Map;

/**
 * Runs scripts, each one about sentences of the document, each one in a house of its own.
 * A call that is refused is looked at from all sides: the house is the same as if it had not been made.
 */
final class Edges {
    private final Check check;
    private final Document document;
    private final Map<List<String>, String> sights = new HashMap<>();

    Edges(Check check, Path shared) throws IOException {
        this.check = check;
        this.document = new Document(shared.resolve("DOC.md"));
    }

    /** A script about a sentence of a promise, told by its beginning. */
    void of(int promise, String beginning, String script) {
        run("Promise " + promise, beginning, script);
    }

    void ofTerms(String beginning, String script) {
        run("Terms", beginning, script);
    }

    void run(String heading, String beginning, String script) {
        String sentence = document.tested(heading, beginning);
        run(heading + ", " + (sentence.length() > 60 ? sentence.substring(0, 60) + ".." : sentence), script);
    }

    private void run(String told, String script) {
        AnnuityHouse house = new AnnuityHouse();
        List<String> before = new ArrayList<>();
        List<Script.Step> steps = Script.stepsOf(script);
        for (Script.Step step : steps) {
            String answer = Script.answer(house, step.call());
            check.due(true, told + ": " + step.call() + " told to answer " + step.due() + ", did answer " + answer,
                    () -> Script.isDue(step, answer));
            List<String> now = new ArrayList<>(before);
            now.add(step.call());
            if (Script.isRefusal(step)) {
                check.due("", told + ": what is seen behind the refused " + step.call(),
                        () -> Sight.difference(sightBehind(before), Sight.behind(now)));
            } else {
                before.add(step.call());
            }
        }
        check.due(true, told + ": not too many calls", () -> steps.size() <= Sight.MOST_CALLS);
    }

    /** Behind each of these questions the house is as it was. */
    void same(String heading, String beginning, String script, String questions) {
        document.tested(heading, beginning);
        List<String> before = new ArrayList<>();
        Script.stepsOf(script).forEach(step -> before.add(step.call()));
        for (Script.Step question : Script.stepsOf(questions)) {
            List<String> now = new ArrayList<>(before);
            now.add(question.call());
            check.due("", heading + ": what is seen behind " + question.call(), () -> Sight.difference(sightBehind(before), Sight.behind(now)));
        }
    }

    void due(String heading, String beginning, Object due, Check.Call call) {
        check.due(due, heading + ", " + document.tested(heading, beginning), call);
    }

    private String sightBehind(List<String> calls) {
        return sights.computeIfAbsent(List.copyOf(calls), key -> Sight.behind(key));
    }

    /** Sentences that no call can break. */
    void without(String heading, String beginning) {
        document.tested(heading, beginning);
    }

    void end() {
        check.due("[]", "the sentences of the document without a test", () -> document.untested().toString());
        check.end();
    }
}
