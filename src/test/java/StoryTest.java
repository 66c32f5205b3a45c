import java.util.Random;

/** The document's first line: what all promises together are for, seen from outside. */
public final class StoryTest {
    private static final int CALLS = 512;

    public static void main(String[] args) {
        Check c = new Check("the first line");
        keepsItsAddress(c);
        grantedForAWhile(c);
        notReplayed(c);
        notForged(c);
        for (int run = 0; run < 3000; run++) {
            inOrderWhateverIsLost(c, run);
        }
        c.end();
    }

    private static void keepsItsAddress(Check c) {
        c.part("mobiles keep their address while they roam");
        RoamingNet x = new RoamingNet(20, 30, 1);
        int[] places = {1, 2, 3, 0, 3, 1, 0};
        for (int k = 0; k < places.length; k++) {
            x.move(1, places[k]);
            x.tick(4);
            Check.deliverAll(x);
            c.due("registered(1)", x.registered(1), places[k]);
            c.due("binding(1)", x.binding(1), places[k] == 0 ? 0 : 100 * places[k] + 20);
            c.due("say(1)", x.say(1), k + 1);
            c.due("message(0)", x.message(0), 4010001 + k);
            Check.deliverAll(x);
            c.due("count(0, 1)", x.count(0, 1), k + 1);
            c.due("count(2, 1)", x.count(2, 1), k + 1);
        }
    }

    private static void grantedForAWhile(Check c) {
        c.part("registrations are granted for a while");
        RoamingNet x = Check.registeredAt(2, 60, 9, 2);
        c.due("binding(0)", x.binding(0), 209);
        c.due("visit(2, 0)", x.visit(2, 0), 9);
        x.move(0, 4);
        x.tick(8);
        c.due("a tick before, registered(0)", x.registered(0), 2);
        c.due("a tick before, binding(0)", x.binding(0), 201);
        c.due("a tick before, visit(2, 0)", x.visit(2, 0), 1);
        x.tick(1);
        c.due("registered(0)", x.registered(0), -1);
        c.due("binding(0)", x.binding(0), 0);
        c.due("visit(2, 0)", x.visit(2, 0), 0);
    }

    private static void notReplayed(Check c) {
        c.part("registrations can't be replayed");
        RoamingNet x = Check.askingAt(1, 20, 30, 2);
        c.list(x, 2100001);
        x.duplicate(0);
        // The copy stays at the list's head while all that comes after it arrives.
        for (int k = 0; k < 4; k++) {
            x.deliver(1);
        }
        c.due("registered(0)", x.registered(0), 1);
        x.move(0, 3);
        x.tick(4);
        for (int k = 0; k < 5; k++) {
            x.deliver(1);
        }
        c.list(x, 2100001);
        c.due("binding(0)", x.binding(0), 320);
        x.tick(1);
        Check.deliverAll(x);
        c.due("after the replay, binding(0)", x.binding(0), 319);
        c.due("after the replay, registered(0)", x.registered(0), 3);
        c.due("after the replay, visit(3, 0)", x.visit(3, 0), 19);
    }

    private static void notForged(Check c) {
        c.part("registrations are sealed");
        RoamingNet x = new RoamingNet(20, 30, 2);
        x.key(0, 0, 12345);
        x.key(1, 0, 12345);
        for (int secret = 12300; secret < 12400; secret++) {
            x.inject(2, 0, 2, 20, 7, Check.requestSeal(secret, 0, 2, 20, 7));
            x.deliver(0);
            x.deliver(0);
            c.due("with the secret " + secret + ", binding(0)", x.binding(0), secret < 12345 ? 0 : 220);
            x.drop(0);
        }
    }

    /** One object whose calls are counted, so that none comes after the 512th. */
    private static final class Counted {
        final RoamingNet x;
        int calls;

        Counted(RoamingNet x) {
            this.x = x;
        }

        boolean more() {
            return calls++ < CALLS - 16;
        }
    }

    private static void inOrderWhateverIsLost(Check c, int run) {
        c.part("messages reach it in order whatever is lost, doubled or late, run " + run);
        Random random = new Random(run);
        Counted n = new Counted(new RoamingNet(6 + random.nextInt(4), 6, 1 + random.nextInt(2)));
        int[] received = new int[2];
        for (int step = 0; step < 75; step++) {
            disturb(n, random);
            int m = step % 2;
            int now = n.x.count(0, m);
            boolean inOrder = now >= received[m] && now <= received[m] + 2 && n.x.count(2, m) <= now;
            c.due("received after " + received[m] + ", at most 1 for each call", inOrder, true);
            received[m] = now;
            n.calls += 2;
        }
        calmDown(n, random);
        for (int m = 0; m < 2; m++) {
            c.due("all said are received by " + m, n.x.count(0, m), n.x.count(3, m));
            c.due("all said are acked by " + m, n.x.count(2, m), n.x.count(3, m));
        }
    }

    private static void disturb(Counted n, Random random) {
        n.calls++;
        int i = random.nextInt(6);
        switch (random.nextInt(10)) {
            case 0:
                n.x.say(random.nextInt(2));
                break;
            case 1:
                n.x.drop(i);
                break;
            case 2:
                n.x.duplicate(i);
                break;
            case 3:
                n.x.move(random.nextInt(2), random.nextInt(5));
                break;
            case 4:
                n.x.tick(1 + random.nextInt(4));
                break;
            default:
                n.x.deliver(i);
                break;
        }
    }

    /** What is under way is lost; then the mobiles stay where they are, and nothing is lost any more. */
    private static void calmDown(Counted n, Random random) {
        while (n.x.drop(0)) {
            n.calls++;
        }
        int place = random.nextInt(4);
        n.x.move(0, place);
        n.x.move(1, (place + 1) % 4);
        n.calls += 2;
        while (n.more() && !done(n)) {
            n.x.tick(1);
            while (n.more() && n.x.deliver(0)) {
                // the call itself is all there is to do
            }
        }
    }

    private static boolean done(Counted n) {
        n.calls += 4;
        return n.x.count(2, 0) == n.x.count(3, 0) && n.x.count(2, 1) == n.x.count(3, 1);
    }
}
