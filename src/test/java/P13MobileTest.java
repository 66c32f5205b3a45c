/** Promises 13 and 14: registered and open. */
public final class P13MobileTest {
    private static final int[] BAD = {-1, 2, 3, Integer.MIN_VALUE, Integer.MAX_VALUE};

    public static void main(String[] args) {
        Check c = new Check("promises 13 and 14");
        wrongMobile(c);
        asItThinks(c);
        everyAgent(c);
        openRequest(c);
        fullList(c);
        c.end();
    }

    private static void wrongMobile(Check c) {
        c.part("wrong mobile");
        RoamingNet x = Check.askingAt(1, 20, 30, 2);
        for (int m : BAD) {
            c.due("registered(" + m + ")", x.registered(m), -1);
            c.due("open(" + m + ")", x.open(m), 0);
        }
    }

    private static void asItThinks(Check c) {
        c.part("as it thinks");
        RoamingNet x = Check.registeredAt(2, 10, 30, 2);
        c.due("registered(0)", x.registered(0), 2);
        c.due("registered(1)", x.registered(1), 0);
        x.inject(0, 0, 0, 0, 9, Check.requestSeal(0, 0, 0, 0, 9));
        x.deliver(0);
        c.due("binding(0)", x.binding(0), 0);
        c.due("registered(0) with no binding", x.registered(0), 2);
        x.move(0, 4);
        x.tick(9);
        c.due("registered(0) at 13", x.registered(0), 2);
        x.tick(1);
        c.due("registered(0) at 14", x.registered(0), -1);
    }

    private static void everyAgent(Check c) {
        c.part("every agent");
        RoamingNet x = new RoamingNet(20, 30, 2);
        x.move(0, 4);
        int[] tour = {1, 2, 3, 0, 3, 1};
        for (int a : tour) {
            x.move(1, a);
            x.tick(4);
            Check.deliverAll(x);
            c.due("registered(1)", x.registered(1), a);
            c.due("open(1)", x.open(1), 0);
            c.due("binding(1)", x.binding(1), a == 0 ? 0 : 100 * a + 20);
            c.due("registered(0)", x.registered(0), 0);
        }
    }

    private static void openRequest(Check c) {
        c.part("open");
        RoamingNet x = Check.askingAt(1, 20, 30, 2);
        c.due("open(0)", x.open(0), 1);
        c.due("open(1)", x.open(1), 0);
        Check.deliverFirst(x, 3);
        c.due("open(0) before the reply", x.open(0), 1);
        x.deliver(0);
        c.due("open(0) after the reply", x.open(0), 0);
        x.move(0, 2);
        x.tick(4);
        x.deliver(0);
        c.due("open(0) with the next agent", x.open(0), 2);
        c.due("registered(0)", x.registered(0), 1);
    }

    private static void fullList(Check c) {
        c.part("a request that is lost in a full list");
        RoamingNet x = new RoamingNet(20, 30, 2);
        x.move(0, 1);
        x.move(1, 1);
        x.tick(4);
        x.say(0);
        for (int k = 0; k < 40 && x.duplicate(2); k++) {
            // the call itself is all there is to do
        }
        c.due("messages()", x.messages(), 40);
        x.tick(1);
        x.drop(1);
        x.deliver(0);
        c.due("open(0)", x.open(0), 1);
        x.say(0);
        x.say(0);
        c.due("messages()", x.messages(), 40);
        x.tick(3);
        c.due("open(0), asked again", x.open(0), 2);
        c.due("messages()", x.messages(), 40);
    }
}
