/** "An object is used for at most 512 calls": the answers still hold at the 512th. */
public final class EdgeCallsTest {
    private static final int CALLS = 512;

    public static void main(String[] args) {
        Check c = new Check("edges of the number of calls");
        longestTime(c);
        longestTalk(c);
        mostIds(c);
        mostInjected(c);
        mostSaid(c);
        c.end();
    }

    private static void longestTime(Check c) {
        c.part("more than 500 times 20 ticks");
        RoamingNet x = new RoamingNet(6, 6, 1);
        x.move(0, 4);
        x.move(1, 4);
        for (int calls = 2; calls < CALLS - 3; calls++) {
            x.tick(20);
        }
        c.due("registered(0)", x.registered(0), 0);
        c.due("registered(1)", x.registered(1), 0);
        c.due("messages(), call 512", x.messages(), 0);
        RoamingNet y = new RoamingNet(6, 6, 1);
        y.move(0, 4);
        y.move(1, 4);
        for (int calls = 2; calls < CALLS - 8; calls++) {
            y.tick(20);
        }
        y.move(0, 3);
        y.tick(4);
        Check.deliverFirst(y, 4);
        y.tick(5);
        c.due("binding(0), call 512", y.binding(0), 301);
    }

    private static void longestTalk(Check c) {
        c.part("127 messages said and delivered");
        RoamingNet x = new RoamingNet(20, 30, 2);
        for (int said = 1; said <= 127; said++) {
            c.due("say(0)", x.say(0), said);
            Check.deliverFirst(x, 3);
        }
        c.due("count(0, 0)", x.count(0, 0), 127);
        c.due("count(1, 0)", x.count(1, 0), 127);
        c.due("count(2, 0)", x.count(2, 0), 127);
        c.due("count(3, 0), call 512", x.count(3, 0), 127);
    }

    private static void mostIds(Check c) {
        c.part("two new IDs in every five calls");
        RoamingNet x = new RoamingNet(20, 30, 2);
        x.move(0, 4);
        x.move(1, 1);
        x.tick(4);
        x.deliver(0);
        x.drop(0);
        for (int round = 1; round <= 101; round++) {
            x.move(1, 1 + round % 3);
            // The open request is asked again after 3 ticks, and the next agent's advert comes at the 4th.
            x.tick(4);
            c.due("deliver(1)", x.deliver(1), true);
            c.due("drop(1)", x.drop(1), true);
            c.due("drop(0)", x.drop(0), true);
        }
        c.due("open(1)", x.open(1), 203);
        c.due("messages(), call 512", x.messages(), 0);
    }

    private static void mostInjected(Check c) {
        c.part("injected and delivered IDs up to call 512");
        RoamingNet x = new RoamingNet(20, 30, 2);
        for (int id = 1; id <= 170; id++) {
            c.due("inject", x.inject(0, 1, 3, 9, id, Check.requestSeal(0, 1, 3, 9, id)), true);
            x.deliver(0);
            x.deliver(0);
        }
        c.due("messages()", x.messages(), 0);
        c.due("binding(1), call 512", x.binding(1), 309);
    }

    private static void mostSaid(Check c) {
        c.part("200 said for each mobile");
        RoamingNet x = new RoamingNet(20, 30, 2);
        for (int said = 1; said <= 200; said++) {
            c.due("say(0)", x.say(0), said);
            c.due("say(1)", x.say(1), said);
        }
        c.due("say(0)", x.say(0), -1);
        c.due("say(1)", x.say(1), -1);
        for (int calls = 402; calls < CALLS - 2; calls += 2) {
            x.tick(20);
            x.drop(0);
        }
        c.due("count(3, 0)", x.count(3, 0), 200);
        c.due("count(1, 1), call 512", x.count(1, 1), 3);
    }
}
