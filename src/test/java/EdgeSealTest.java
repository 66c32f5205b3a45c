/** The seal: its wrap-around, written out as numbers that were reckoned elsewhere, and what is nearly the seal. */
public final class EdgeSealTest {
    // Secret, mobile, care-of, lifetime, ID and the seal that is due.
    private static final int[][] DUE = {
        {0, 0, 1, 6, 1, 1747756913},
        {0, 1, 3, 60, 9999, 1688832981},
        {1, 0, 2, 7, 2, 1582487903},
        {-1, 1, 1, 1, 1, -762148631},
        {Integer.MAX_VALUE, 0, 3, 60, 9999, -2140725037},
        {Integer.MIN_VALUE, 1, 2, 30, 5000, -1914845708},
        {16777619, 0, 0, 0, 2, -1803039343},
        {-559038737, 1, 0, 0, 9999, 1207067}};

    public static void main(String[] args) {
        Check c = new Check("edges of the seal");
        writtenOut(c);
        everyBit(c);
        everyNumber(c);
        everyBitOfTheSecret(c);
        oneTurn(c);
        replyOfAnotherSecret(c);
        homeLifetimeIsZero(c);
        c.end();
    }

    /** Whether the home agent takes the request: care-of 0 ends a binding, any other makes one. */
    private static boolean isTaken(int[] q, int seal) {
        RoamingNet x = new RoamingNet(20, 60, 2);
        int m = q[1];
        if (q[2] == 0) {
            // A binding that was there before must go; its ID must be less than the one asked about.
            x.inject(0, m, 1, 9, 1, Check.requestSeal(0, m, 1, 9, 1));
            x.deliver(0);
            x.drop(0);
        }
        int before = x.binding(m);
        x.key(0, m, q[0]);
        x.inject(0, m, q[2], q[3], q[4], seal);
        x.deliver(0);
        return x.binding(m) != before;
    }

    private static void writtenOut(Check c) {
        c.part("h = (h xor x) * 16777619 (wraps), h = h xor (h >>> 15)");
        for (int[] q : DUE) {
            String name = "secret " + q[0] + ", care-of " + q[2] + ", ID " + q[4];
            c.due(name + ", the test's own seal", Check.requestSeal(q[0], q[1], q[2], q[3], q[4]), q[5]);
            c.due(name, isTaken(q, q[5]), true);
            c.due(name + ", 1 more", isTaken(q, q[5] + 1), false);
            c.due(name + ", 1 less", isTaken(q, q[5] - 1), false);
            c.due(name + ", seal 0", isTaken(q, 0), false);
        }
    }

    private static void everyBit(Check c) {
        c.part("a seal with one bit wrong");
        for (int[] q : DUE) {
            for (int bit = 0; bit < 32; bit++) {
                c.due("bit " + bit, isTaken(q, q[5] ^ (1 << bit)), false);
            }
        }
    }

    private static void everyNumber(Check c) {
        int[] q = {5, 0, 1, 9, 7};
        c.part("the seal of other numbers");
        c.due("the ones due", isTaken(q, Check.seal(5, 2, 0, 1, 9, 7)), true);
        int[][] others = {
            {1, 0, 1, 9, 7}, {3, 0, 1, 9, 7}, {2, 1, 1, 9, 7}, {2, 0, 0, 9, 7}, {2, 0, 2, 9, 7},
            {2, 0, 1, 8, 7}, {2, 0, 1, 10, 7}, {2, 0, 1, 9, 6}, {2, 0, 1, 9, 8},
            {2, 0, 1, 7, 9}, {2, 0, 9, 1, 7}, {2, 1, 0, 9, 7}, {7, 9, 1, 0, 2}, {0, 1, 9, 7},
            {2, 0, 1, 9}, {2, 0, 1, 9, 7, 0}, {}};
        for (int k = 0; k < others.length; k++) {
            c.due("others " + k, isTaken(q, Check.seal(5, others[k])), false);
        }
    }

    private static void everyBitOfTheSecret(Check c) {
        c.part("the two sides' secrets with one bit not the same");
        for (int bit = 0; bit < 32; bit++) {
            RoamingNet x = new RoamingNet(20, 30, 2);
            x.key(0, 1, 1 << bit);
            x.move(1, 2);
            x.tick(4);
            Check.deliverAll(x);
            c.due("registered(1), bit " + bit, x.registered(1), 0);
            c.due("binding(1), bit " + bit, x.binding(1), 0);
            c.due("open(1), bit " + bit, x.open(1), 1);
            RoamingNet y = new RoamingNet(20, 30, 2);
            y.key(0, 1, 1 << bit);
            y.key(1, 1, 1 << bit);
            y.move(1, 2);
            y.tick(4);
            Check.deliverAll(y);
            c.due("registered(1), both with bit " + bit, y.registered(1), 2);
        }
    }

    /** A seal is for one request: sent again as it is, the home agent takes it no more. */
    private static void oneTurn(Check c) {
        c.part("a replayed request");
        RoamingNet x = Check.askingAt(1, 20, 30, 2);
        x.deliver(0);
        x.duplicate(0);
        x.deliver(0);
        c.due("binding(0)", x.binding(0), 120);
        x.tick(2);
        x.deliver(0);
        c.due("binding(0) after the replay", x.binding(0), 118);
    }

    private static void replyOfAnotherSecret(Check c) {
        c.part("a reply when the mobile's secret has one bit changed");
        for (int bit = 0; bit < 32; bit++) {
            RoamingNet x = Check.askingAt(3, 20, 30, 2);
            Check.deliverFirst(x, 3);
            x.duplicate(0);
            x.key(1, 0, 1 << bit);
            x.deliver(0);
            c.due("registered(0), bit " + bit, x.registered(0), 0);
            c.due("open(0), bit " + bit, x.open(0), 1);
            x.key(1, 0, 0);
            x.deliver(0);
            c.due("registered(0), as it was", x.registered(0), 3);
            c.due("open(0), as it was", x.open(0), 0);
        }
    }

    private static void homeLifetimeIsZero(Check c) {
        c.part("the lifetime LIFE, but 0 if a is 0");
        int[] lives = {6, 20, 60};
        for (int life : lives) {
            RoamingNet x = Check.registeredAt(1, life, 60, 2);
            c.due("binding(0)", x.binding(0), 100 + life);
            x.move(0, 0);
            x.tick(4);
            Check.deliverAll(x);
            c.due("binding(0) at home", x.binding(0), 0);
            c.due("registered(0) at home", x.registered(0), 0);
        }
    }
}
