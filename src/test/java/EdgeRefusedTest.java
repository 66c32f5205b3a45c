/** "A call that is refused changes nothing.": each refused call of promises 2 to 9, in four states. */
public final class EdgeRefusedTest {
    private static final int[] NO_MOBILE = {-1, 2, Integer.MIN_VALUE, Integer.MAX_VALUE};
    private static final int[] NO_AGENT = {-1, 4, Integer.MIN_VALUE, Integer.MAX_VALUE};
    private static final int[] NO_PLACE = {-1, 5, Integer.MIN_VALUE, Integer.MAX_VALUE};
    private static final int[] NO_TICKS = {0, -1, 21, Integer.MIN_VALUE, Integer.MAX_VALUE};

    private final Twins twins;
    private final Check c;

    private EdgeRefusedTest(Check c) {
        this.c = c;
        twins = new Twins(c);
    }

    public static void main(String[] args) {
        Check c = new Check("refused calls");
        EdgeRefusedTest test = new EdgeRefusedTest(c);
        test.inScene("a new object", EdgeRefusedTest::fresh, 0);
        test.inScene("a busy object", EdgeRefusedTest::busy, 9);
        test.inScene("one message under way", EdgeRefusedTest::withOne, 1);
        test.inScene("a full list", EdgeRefusedTest::full, 40);
        test.whenFull();
        test.when200AreSaid();
        test.wrongQuestions();
        c.end();
    }

    private static RoamingNet fresh() {
        return new RoamingNet(20, 30, 2);
    }

    private static RoamingNet withOne() {
        RoamingNet x = fresh();
        x.say(1);
        return x;
    }

    /** Clock 10, mobile 0 registered with agent 1, mobile 1 asking agent 2, messages of most kinds under way. */
    private static RoamingNet busy() {
        RoamingNet x = new RoamingNet(12, 10, 1);
        for (int m = 0; m < 2; m++) {
            x.key(0, m, 70 + m);
            x.key(1, m, 70 + m);
        }
        x.move(0, 1);
        x.move(1, 4);
        x.tick(4);
        Check.deliverAll(x);
        x.say(0);
        x.say(0);
        x.deliver(0);
        x.move(1, 2);
        x.tick(4);
        x.deliver(3);
        x.say(1);
        x.inject(2, 0, 2, 9, 3, Check.requestSeal(70, 0, 2, 9, 3));
        x.tick(2);
        x.duplicate(1);
        return x;
    }

    private static RoamingNet full() {
        RoamingNet x = busy();
        Check.fill(x);
        return x;
    }

    private static RoamingNet with200Said() {
        RoamingNet x = fresh();
        for (int k = 0; k < 200; k++) {
            x.say(1);
        }
        return x;
    }

    private void inScene(String name, Twins.Scene scene, int size) {
        c.part(name);
        c.due("messages()", scene.make().messages(), size);
        key(scene);
        move(scene);
        for (int n : NO_TICKS) {
            twins.refused("tick(" + n + ")", scene, x -> x.tick(n));
        }
        for (int m : NO_MOBILE) {
            twins.refused("say(" + m + ")", scene, x -> x.say(m), -1);
        }
        int[] none = {-1, size, size + 1, 41, Integer.MIN_VALUE, Integer.MAX_VALUE};
        for (int i : none) {
            twins.refused("deliver(" + i + ")", scene, x -> x.deliver(i));
            twins.refused("drop(" + i + ")", scene, x -> x.drop(i));
            twins.refused("duplicate(" + i + ")", scene, x -> x.duplicate(i));
        }
        inject(scene);
    }

    private void key(Twins.Scene scene) {
        for (int m : NO_MOBILE) {
            twins.refused("key(0, " + m + ", 5)", scene, x -> x.key(0, m, 5));
            twins.refused("key(1, " + m + ", 5)", scene, x -> x.key(1, m, 5));
        }
        int[] noSide = {-1, 2, Integer.MIN_VALUE, Integer.MAX_VALUE};
        for (int side : noSide) {
            twins.refused("key(" + side + ", 0, 5)", scene, x -> x.key(side, 0, 5));
            twins.refused("key(" + side + ", 1, 5)", scene, x -> x.key(side, 1, 5));
        }
    }

    private void move(Twins.Scene scene) {
        for (int m : NO_MOBILE) {
            twins.refused("move(" + m + ", 3)", scene, x -> x.move(m, 3));
        }
        for (int place : NO_PLACE) {
            twins.refused("move(0, " + place + ")", scene, x -> x.move(0, place));
            twins.refused("move(1, " + place + ")", scene, x -> x.move(1, place));
        }
    }

    private void inject(Twins.Scene scene) {
        for (int a : NO_AGENT) {
            refusedInjection(scene, a, 0, 1, 9, 5);
            refusedInjection(scene, 0, 0, a, 9, 5);
            refusedInjection(scene, 0, 0, a, 0, 5);
        }
        for (int m : NO_MOBILE) {
            refusedInjection(scene, 0, m, 1, 9, 5);
        }
        int[] noLifetime = {-1, 61, Integer.MIN_VALUE, Integer.MAX_VALUE};
        for (int lifetime : noLifetime) {
            refusedInjection(scene, 0, 0, 1, lifetime, 5);
            refusedInjection(scene, 0, 0, 0, lifetime, 5);
        }
        int[] noId = {0, -1, 10000, Integer.MIN_VALUE, Integer.MAX_VALUE};
        for (int id : noId) {
            refusedInjection(scene, 0, 0, 1, 9, id);
        }
        for (int other = 1; other < 4; other++) {
            refusedInjection(scene, 0, 0, other, 0, 5);
        }
        refusedInjection(scene, 0, 0, 0, 1, 5);
        refusedInjection(scene, 1, 1, 0, 60, 5);
    }

    private void refusedInjection(Twins.Scene scene, int a, int m, int careOf, int lifetime, int id) {
        int seal = Check.requestSeal(70, m, careOf, lifetime, id);
        twins.refused("inject(" + a + ", " + m + ", " + careOf + ", " + lifetime + ", " + id + ", seal)", scene,
                x -> x.inject(a, m, careOf, lifetime, id, seal));
    }

    private void whenFull() {
        c.part("40 messages");
        for (int i = 0; i < 40; i++) {
            int each = i;
            twins.refused("duplicate(" + i + ")", EdgeRefusedTest::full, x -> x.duplicate(each));
        }
        refusedInjection(EdgeRefusedTest::full, 0, 0, 1, 9, 5);
        refusedInjection(EdgeRefusedTest::full, 2, 0, 2, 9, 9999);
        refusedInjection(EdgeRefusedTest::full, 0, 0, 0, 0, 5);
    }

    private void when200AreSaid() {
        c.part("200 said");
        twins.refused("say(1)", EdgeRefusedTest::with200Said, x -> x.say(1), -1);
        twins.refused("say(2)", EdgeRefusedTest::with200Said, x -> x.say(2), -1);
    }

    /** A question about what is not there is no call that could change anything either. */
    private void wrongQuestions() {
        c.part("wrong questions");
        Twins.Scene scene = EdgeRefusedTest::busy;
        for (int m : NO_MOBILE) {
            twins.refused("place(" + m + ")", scene, x -> x.place(m), -1);
            twins.refused("registered(" + m + ")", scene, x -> x.registered(m), -1);
            twins.refused("open(" + m + ")", scene, x -> x.open(m), 0);
            twins.refused("binding(" + m + ")", scene, x -> x.binding(m), 0);
            twins.refused("visit(1, " + m + ")", scene, x -> x.visit(1, m), 0);
            twins.refused("count(3, " + m + ")", scene, x -> x.count(3, m), -1);
        }
        int[] noForeign = {-1, 0, 4, Integer.MIN_VALUE, Integer.MAX_VALUE};
        for (int a : noForeign) {
            twins.refused("visit(" + a + ", 0)", scene, x -> x.visit(a, 0), 0);
        }
        int[] noCount = {-1, 4, Integer.MIN_VALUE, Integer.MAX_VALUE};
        for (int which : noCount) {
            twins.refused("count(" + which + ", 0)", scene, x -> x.count(which, 0), -1);
        }
        int[] none = {-1, 9, 40, Integer.MIN_VALUE, Integer.MAX_VALUE};
        for (int i : none) {
            twins.refused("message(" + i + ")", scene, x -> x.message(i), -1);
        }
    }
}
