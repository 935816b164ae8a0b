/** Promise 9 (dice), and how HANDLES are taken from the DICE. */
public final class HandleTest {
    public static void main(String[] args) {
        sixty();
        bytesHighestFirst();
        eachOnce();
        sameNumbersInAnotherOrder();
        twoAtOnce();
        ofAllKinds();
        Kit.close();
    }

    private static void sixty() {
        Kit kit = new Kit();
        for (int i = 1; i <= 60; i++) {
            Kit.due("dice " + i, i, kit.dice(0, 0, 0, 0));
        }
        Kit.due("dice with 60", Kit.NONE, kit.dice(1, 1, 1, 1));
        Kit.due("DICE that wait", 60, kit.count(2));
        Kit full = Kit.world();
        for (int i = 0; i < 60; i++) {
            full.dice(i, 0, 0, 0);
        }
        full.dice(-1, 0, 0, 0);
        full.ask("x", "");
        full.consent(0, 1, 1, true);
        Kit.due("one was taken", 59, full.count(2));
        Kit.due("one comes behind", 60, full.dice(60, 0, 0, 0));
        Kit.due("the next is refused", Kit.NONE, full.dice(61, 0, 0, 0));
    }

    private static void bytesHighestFirst() {
        int[][] numbers = {{0, 0, 0, 0}, {-1, -1, -1, -1}, {0x00010203, 0x04050607, 0x08090a0b, 0x0c0d0e0f},
            {0x80000000, 0x7fffffff, 1, 0x80000000}, {0xfbf0ffbf, 0x3effc000, 0x12345678, 0x9abcdef0}};
        for (int[] n : numbers) {
            Kit kit = Kit.world();
            kit.ask("x", "");
            kit.dice(n[0], n[1], n[2], n[3]);
            kit.consent(0, 1, 1, true);
            kit.answered("a HANDLE", 302, 0, "u:v?code=" + Kit.handle(n[0], n[1], n[2], n[3]));
        }
        Kit.due("of zeros", "AAAAAAAAAAAAAAAAAAAAAA", Kit.handle(0));
    }

    private static void eachOnce() {
        Kit kit = Kit.world();
        for (int i = 0; i < 4; i++) {
            kit.ask("x", "");
        }
        kit.dice(1, 1, 1, 1);
        kit.dice(1, 1, 1, 1);
        kit.dice(1, 1, 1, 2);
        kit.dice(1, 1, 1, 1);
        kit.dice(2, 1, 1, 1);
        kit.dice(1, 2, 1, 1);
        kit.consent(0, 1, 1, true);
        Kit.due("the first", 5, kit.count(2));
        kit.consent(1, 1, 1, true);
        Kit.due("one of the same is thrown away", 3, kit.count(2));
        kit.answered("the second HANDLE", 302, 0, "u:v?code=" + Kit.handle(1, 1, 1, 2));
        kit.consent(2, 1, 1, true);
        kit.answered("the third HANDLE", 302, 0, "u:v?code=" + Kit.handle(2, 1, 1, 1));
        kit.consent(3, 1, 1, true);
        kit.answered("the fourth HANDLE", 302, 0, "u:v?code=" + Kit.handle(1, 2, 1, 1));
        Kit.due("none waits", 0, kit.count(2));
    }

    private static void sameNumbersInAnotherOrder() {
        int[][] orders = {{1, 2, 3, 4}, {2, 1, 3, 4}, {1, 3, 2, 4}, {1, 2, 4, 3}, {4, 3, 2, 1}};
        Kit kit = Kit.world();
        for (int k = 0; k < orders.length; k++) {
            kit.ask("x", "");
            int[] n = orders[k];
            kit.dice(n[0], n[1], n[2], n[3]);
            Kit.due("a HANDLE of order " + k, k, kit.consent(k, 1, 1, true));
        }
        kit.ask("x", "");
        for (int[] n : orders) {
            kit.dice(n[0], n[1], n[2], n[3]);
        }
        Kit.due("all were used", Kit.STATE, Kit.thrown(() -> kit.consent(orders.length, 1, 1, true)));
    }

    private static void twoAtOnce() {
        Kit kit = Kit.world();
        kit.give("x", 1, 1, 1);
        kit.roll(1, 2, 1, 2, 2);
        Kit.due("two of the same are one HANDLE", 503, kit.redeem(1));
        Kit.due("none is thrown away", 5, kit.count(2));
        Kit.due("none is made", 0, kit.count(7));
        kit.roll(3, 4);
        Kit.due("with another", 200, kit.redeem(1));
        Kit.due("the last waits", 1, kit.count(2));
        Kit.due("the first is the ACCESS token's", 1, kit.check(Kit.handle(2), 0));
        kit.roll(2);
        Kit.due("the second is the REFRESH token's", 503, kit.turn(3, ""));
        kit.roll(9);
        Kit.due("the second is the REFRESH token's", 200, kit.turn(3, ""));
        Kit.due("DICE that wait", 0, kit.count(2));
    }

    private static void ofAllKinds() {
        Kit kit = Kit.world();
        kit.start(1, 3, 5);
        kit.ask("x", "");
        kit.roll(1, 2, 3);
        Kit.due("bytes of a CODE, an ACCESS and a REFRESH token", Kit.STATE, Kit.thrown(() -> kit.consent(1, 1, 1, true)));
        kit.turn(3, "");
        kit.answered("no HANDLES for turning", 503, 11, "{\"error\":\"temporarily_unavailable\"}");
        Kit.due("all wait", 3, kit.count(2));
        Kit.due("a CODE is no ACCESS token", 0, kit.check(Kit.handle(1), 0));
        Kit.due("a REFRESH token is none", 0, kit.check(Kit.handle(3), 0));
        Kit.due("an ACCESS token is no REFRESH token", 400, kit.turn(2, ""));
        Kit.due("a CODE is none", 400, kit.turn(1, ""));
        Kit.due("an ACCESS token is no CODE", 400, kit.redeem(2));
        Kit.due("the FAMILY is well", 0, kit.family(0, 0));
    }
}
