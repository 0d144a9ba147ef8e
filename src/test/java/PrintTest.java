/** Term 4: how formulas are printed (promise 13). */
public final class PrintTest {
    private static final String SYMBOLS = "predicate A 0. predicate B 0. predicate C 0. predicate Q 1. predicate R 2. function c 0. function f 1. function g 2. ";

    public static void main(String[] args) {
        signs();
        quantifiers();
        boundNames();
        goals();
        Client.end();
    }

    private static void due(String formula, String printed) {
        Client.dueGoals(SYMBOLS + "lemma l : " + formula + ".", "{\"proof\":\"l\",\"goals\":[\"|- " + printed + "\"]}");
    }

    private static void signs() {
        due("A->B->C", "A -> B -> C");
        due("(A->B)->C", "(A -> B) -> C");
        due("A->(B->C)", "A -> B -> C");
        due("~A", "A -> False");
        due("~~A", "(A -> False) -> False");
        due("~A*B", "(A -> False) * B");
        due("A*~B", "A * (B -> False)");
        due("A+B+C", "A + B + C");
        due("(A+B)+C", "(A + B) + C");
        due("A+(B+C)", "A + B + C");
        due("(A->B)+C", "(A -> B) + C");
        due("A+(B->C)", "A + (B -> C)");
        due("A*B*C", "A * B * C");
        due("(A*B)*C", "(A * B) * C");
        due("A*(B*C)", "A * B * C");
        due("(A+B)*C", "(A + B) * C");
        due("A*(B+C)", "A * (B + C)");
        due("A*B+C*A", "A * B + C * A");
        due("(A*B)+(C*A)", "A * B + C * A");
        due("A+B->C+A", "A + B -> C + A");
        due("(A->B)*(B->A)", "(A -> B) * (B -> A)");
        due("((A))", "A");
        due("Q(f(g(c,c)))", "Q(f(g(c, c)))");
        due("R(c,f(c))*c=g(f(c),c)", "R(c, f(c)) * c = g(f(c), c)");
        due("~c=c", "c = c -> False");
        due("False", "False");
    }

    private static void quantifiers() {
        due("forall x,Q(x)", "forall x, Q(x)");
        due("forall x,Q(x)->A", "forall x, Q(x) -> A");
        due("(forall x,Q(x))->A", "(forall x, Q(x)) -> A");
        due("A->forall x,Q(x)", "A -> forall x, Q(x)");
        due("A->exists x,Q(x)+B", "A -> exists x, Q(x) + B");
        due("A*(exists x,Q(x))", "A * exists x, Q(x)");
        due("A+(exists x,Q(x))*B", "A + (exists x, Q(x)) * B");
        due("A*(exists x,Q(x))->B", "A * (exists x, Q(x)) -> B");
        due("(A->exists x,Q(x))->B", "(A -> exists x, Q(x)) -> B");
        due("(A+B*exists x,Q(x))*C", "(A + B * exists x, Q(x)) * C");
        due("~forall x,~exists y,R(x,y)", "(forall x, (exists y, R(x, y)) -> False) -> False");
        due("(forall x,A->exists y,R(x,y))*B", "(forall x, A -> exists y, R(x, y)) * B");
        due("forall x,exists y,R(x,y)", "forall x, exists y, R(x, y)");
        due("(forall x,A)*forall y,Q(y)", "(forall x, A) * forall y, Q(y)");
        due("(forall x,exists z,R(x,z))+exists y,Q(y)", "(forall x, exists z, R(x, z)) + exists y, Q(y)");
        due(Client.repeat("forall x,", 11) + "exists y,y=y", Client.repeat("forall x, ", 11) + "exists y, y = y");
    }

    private static void boundNames() {
        due("forall x,forall x,Q(x)", "forall x, forall x, Q(x)");
        due("forall c,Q(c)", "forall c, Q(c)");
        due("forall A,Q(A)*A", "forall A', Q(A') * A");
        due("forall Q,Q(Q)", "forall Q', Q(Q')");
        due("forall f,R(f,f)", "forall f, R(f, f)");
        due("(forall c,Q(c))*Q(c)", "(forall c, Q(c)) * Q(c)");
        String symbols = "predicate R 2. predicate x 0. predicate x' 0. function c 0. ";
        Client.dueGoals(symbols + "lemma l : forall x, x * R(x, x).", "{\"proof\":\"l\",\"goals\":[\"|- forall x', x * R(x', x')\"]}");
        Client.dueGoals(symbols + "lemma l : forall x, x * x' * R(x, x).", "{\"proof\":\"l\",\"goals\":[\"|- forall x'', x * x' * R(x'', x'')\"]}");
        Client.dueGoals(symbols + "lemma l : forall x', x * R(x', x').", "{\"proof\":\"l\",\"goals\":[\"|- forall x', x * R(x', x')\"]}");
        Client.dueGoals(symbols + "lemma l : forall x, x * forall x', R(x, x').", "{\"proof\":\"l\",\"goals\":[\"|- forall x', x * forall x'', R(x', x'')\"]}");
        Client.dueGoals(symbols + "lemma l : forall x, x * forall x', R(x', x').", "{\"proof\":\"l\",\"goals\":[\"|- forall x', x * forall x', R(x', x')\"]}");
        String inner = "predicate T 3. function c 0. ";
        Client.dueGoals(inner + "lemma l : forall y, (forall x, forall x, forall y, T(x, x, y)) -> forall y, T(y, y, y). intro x. intro h. intro y.",
                "{\"proof\":\"l\",\"goals\":[\"x y h : forall x, forall x, forall y, T(x, x, y), |- T(y, y, y)\"]}");
        Client.dueGoals(inner + "lemma l : forall x, exists y, forall y, T(x, c, y). intro y.",
                "{\"proof\":\"l\",\"goals\":[\"y |- exists y', forall y', T(y, c, y')\"]}");
        Client.dueGoals(inner + "lemma l : forall abcdefghij, exists z, forall abcdefghij, T(z, z, abcdefghij). intro abcdefghij. give abcdefghij.",
                "{\"proof\":\"l\",\"goals\":[\"abcdefghij |- forall abcdefghij', T(abcdefghij, abcdefghij, abcdefghij')\"]}");
        Client.dueGoals(inner + "lemma l : forall y, forall y', exists x, forall y, forall y, T(x, y, y'). intro y. intro y'. give y.",
                "{\"proof\":\"l\",\"goals\":[\"y y' |- forall y'', forall y'', T(y, y'', y')\"]}");
    }

    private static void goals() {
        Client client = new Client();
        client.batch("predicate P 0. predicate Q 1. lemma me : forall x, Q(x) -> P * Q(x). intro a. intro b. split.");
        Client.due("ahead of all", client.goals(-1), "null");
        Client.due("no proof", client.goals(1), "null");
        Client.due("two goals", client.goals(5), "{\"proof\":\"me\",\"goals\":[\"a b : Q(a), |- P\",\"a b : Q(a), |- Q(a)\"]}");
        Client.due("no such sentence", client.goals(6), "");
        Client.due("no such sentence", client.goals(-2), "");
        Client.due("a byte", client.server.goals(5, 2), 'p');
        Client.due("no byte", client.server.goals(5, -1), -1);
        Client.due("the same again", client.goals(2), "{\"proof\":\"me\",\"goals\":[\"|- forall x, Q(x) -> P * Q(x)\"]}");
        client.batch("qed.");
        Client.due("another batch", client.goals(0), "null");
        Client.due("it is shorter", client.goals(5), "");
    }
}
