/** Term 4: names that are unknown or taken (faults 5 and 6), as they come from the left. */
public final class NamesTest {
    private static final String SYMBOLS = "predicate P 0. predicate Q 1. function c 0. function f 1. ";
    private static final String FOUR = "0 0 0 0 ";

    public static void main(String[] args) {
        formulas();
        newNames();
        tactics();
        fromTheLeft();
        withoutGoals();
        Client.end();
    }

    private static void due(String more, String faults) {
        Client.dueFaults(SYMBOLS + more, FOUR + faults);
    }

    private static void formulas() {
        due("axiom a : X.", "5");
        due("axiom a : Q.", "5");
        due("axiom a : P(c).", "5");
        due("axiom a : Q(c, c).", "5");
        due("axiom a : Q(f).", "5");
        due("axiom a : Q(c(c)).", "5");
        due("axiom a : Q(P).", "5");
        due("axiom a : c.", "5");
        due("axiom a : P = c.", "5");
        due("axiom a : c = x.", "5");
        due("axiom a : (forall x, Q(x)) * Q(x).", "5");
        due("axiom a : forall x, Q(x(c)).", "5");
        due("axiom a : forall f, Q(f).", "0");
        due("axiom a : forall P, P * Q(P).", "0");
        due("axiom a : forall x, x.", "5");
        due("axiom a : a.", "5");
        due("axiom a : P. axiom b : a.", "0 5");
    }

    private static void newNames() {
        due("function P 1.", "6");
        due("predicate c 0.", "6");
        due("axiom Q : P.", "6");
        due("lemma f : P.", "6");
        due("axiom a : P. axiom a : P.", "0 6");
        due("axiom a : P. function a 0.", "0 6");
        due("axiom a : P. lemma a : P.", "0 6");
        due("lemma l : P. abort. lemma l : P.", "0 0 0");
        due("axiom a : P. lemma l : P. exact a. qed. axiom l : P.", "0 0 0 0 6");
        due("axiom a : forall a, forall P, Q(a).", "0");
        due("lemma l : P -> P. intro l. exact l. qed.", "0 0 0 0");
    }

    private static void tactics() {
        String goal = "axiom a : P. lemma l : forall x, Q(x) -> P + P -> P. intro x. intro h. ";
        String four = "0 0 0 0 ";
        String[] taken = {"intro P", "intro c", "intro a", "intro x", "intro h", "have h : P", "have x : P", "have a : P", "have Q : P", "use a c h"};
        for (String tactic : taken) {
            due(goal + tactic + ".", four + "6");
        }
        String[] unknown = {"exact k", "exact x", "exact P", "exact l", "apply k", "absurd c", "rewrite Q", "cases a k m", "cases x k m", "cases P k m",
            "cases k k m", "give y", "give h", "give P", "give f", "give x(c)", "give f(c, c)", "use k c m", "use h y m", "have k : Q(y)", "have k : Q(h)", "have k : h"};
        for (String tactic : unknown) {
            due(goal + tactic + ".", four + "5");
        }
        String[] noMatch = {"exact a", "apply h", "split", "left", "right", "cases h k m", "absurd a", "give f(x)", "use h c m", "use a x m", "same", "rewrite h"};
        for (String tactic : noMatch) {
            due(goal + tactic + ".", four + "8");
        }
        due(goal + "intro s. cases s a k.", four + "0 6");
        due(goal + "intro s. cases s k a.", four + "0 6");
        due(goal + "intro s. cases s k k.", four + "0 6");
        due(goal + "intro s. cases s s k.", four + "0 6");
        due(goal + "intro s. cases s k h.", four + "0 6");
        due(goal + "intro s. cases s l m.", four + "0 0");
        due(goal + "cases h h a.", four + "6");
    }

    private static void fromTheLeft() {
        due("axiom P : X.", "6");
        due("axiom a : X -> Q(P).", "5");
        String goal = "axiom a : P. lemma l : P -> P. intro h. ";
        String three = "0 0 0 ";
        due(goal + "have h : X.", three + "6");
        due(goal + "have k : X.", three + "5");
        due(goal + "use a X h.", three + "5");
        due(goal + "use X c h.", three + "5");
        due(goal + "use a c h.", three + "6");
        due(goal + "cases X h h.", three + "5");
        due(goal + "cases h h X.", three + "6");
    }

    private static void withoutGoals() {
        String goal = "axiom a : P. lemma l : P -> P. intro h. exact h. ";
        String four = "0 0 0 0 ";
        due(goal + "exact h.", four + "5");
        due(goal + "exact a.", four + "8");
        due(goal + "intro h.", four + "8");
        due(goal + "intro P.", four + "6");
        due(goal + "intro a.", four + "6");
        due(goal + "split. left. same.", four + "8 8 8");
        due(goal + "cases h a b.", four + "5");
        due(goal + "give x. give c.", four + "5 8");
        due(goal + "have k : Q(x). have k : P.", four + "5 8");
        due(goal + "have k : P" + Client.repeat(" -> P", 60) + ".", four + "8");
        due(goal + "qed. exact l.", four + "0 4");
    }
}
