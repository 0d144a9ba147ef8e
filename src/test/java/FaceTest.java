import java.lang.reflect.Constructor;
import java.lang.reflect.Field;
import java.lang.reflect.Method;
import java.lang.reflect.Modifier;
import java.util.Set;
import java.util.TreeSet;

/** Promise 1, a new object; and that the class has the document's face and no more. */
public final class FaceTest {
    public static void main(String[] args) {
        newObject();
        outOfRange();
        face();
        Client.end();
    }

    private static void newObject() {
        ProofServer x = new ProofServer();
        for (int what = 0; what <= 10; what++) {
            Client.due("new: state(" + what + ")", x.state(what), 0);
        }
        Client.due("new: state(11)", x.state(11), -1);
        Client.due("new: state(12)", x.state(12), -1);
        Client.due("new: document(0, 0)", x.document(0, 0), -1);
        Client.due("new: unit(0, 0)", x.unit(0, 0), -1);
        Client.due("new: sentence(0, 0, 0)", x.sentence(0, 0, 0), -1);
        Client.due("new: out(0)", x.out(0), -1);
        Client.due("new: take()", x.take(), 0);
        Client.due("new: work(10)", x.work(10), 0);
        Client.due("new: verdict(0, 0)", x.verdict(0, 0), -1);
        Client.due("new: goals(0, 0)", x.goals(0, 0), -1);
        Client.due("new: give(0)", x.give(0), 0);
        Client.due("new: batch(0)", x.batch(0), 0);
    }

    private static void outOfRange() {
        int[] odd = {Integer.MIN_VALUE, -2, -1, 0, 1, 2, 3, 12, 13, 40, 4000, Integer.MAX_VALUE};
        Client client = new Client().initialized();
        client.open("a", 1, "predicate P 0. lemma l : P. qed.");
        client.batch("predicate P 0. lemma l : P. qed.");
        Server x = client.server;
        for (int a : odd) {
            x.state(a);
            x.out(a);
            x.give(a);
            x.batch(a);
            for (int b : odd) {
                x.document(a, b);
                x.unit(a, b);
                x.verdict(a, b);
                x.goals(a, b);
                for (int c : odd) {
                    x.sentence(a, b, c);
                }
            }
        }
        client.batch("qed.");
        Client.due("verdict(0, 6)", x.verdict(0, 6), -1);
        Client.due("verdict(0, -1)", x.verdict(0, -1), -1);
        Client.due("state(-1)", x.state(-1), -1);
        Client.due("state(13)", x.state(13), -1);
        Client.due("document(0, 4)", x.document(0, 4), -1);
        Client.due("sentence(0, 0, 5)", x.sentence(0, 0, 5), -1);
    }

    private static void face() {
        Set<String> members = new TreeSet<>();
        for (Method method : ProofServer.class.getDeclaredMethods()) {
            if (!Modifier.isPrivate(method.getModifiers()) && !method.isSynthetic()) {
                members.add(method.getName() + method.getParameterCount());
            }
        }
        Client.due("face", members.toString(), "[batch1, document2, feed5, give1, goals2, out1, sentence3, state1, take0, unit2, verdict2, work1]");
        for (Field field : ProofServer.class.getDeclaredFields()) {
            Client.due("field " + field.getName() + " is private", Modifier.isPrivate(field.getModifiers()) ? 1 : 0, 1);
            boolean isState = Modifier.isStatic(field.getModifiers()) && !Modifier.isFinal(field.getModifiers());
            Client.due("field " + field.getName() + " is static state", isState ? 1 : 0, 0);
        }
        for (Constructor<?> constructor : ProofServer.class.getDeclaredConstructors()) {
            Client.due("constructor", Modifier.isPublic(constructor.getModifiers()) ? constructor.getParameterCount() : -1, 0);
        }
    }
}
