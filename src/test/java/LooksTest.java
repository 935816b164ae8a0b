/** Promises 16 (status), 17 (error), 18 (out), 19 (outs), 20 (code), 21 (family), 22 (count). */
public final class LooksTest {
    public static void main(String[] args) {
        statusAndError();
        out();
        codes();
        families();
        counts();
        Kit.close();
    }

    private static void statusAndError() {
        Kit kit = Kit.world();
        Kit.due("status at first", 0, kit.status());
        Kit.due("error at first", 0, kit.error());
        kit.authorize("client_id=z");
        kit.answered("authorize()", 400, 6, 0);
        kit.put("new");
        kit.scope();
        kit.tick(1);
        kit.roll(1, 2, 3);
        kit.lives(60, 600, 100);
        kit.answered("scope(), tick(), dice(), lives() leave it", 400, 6, 0);
        kit.ask("x", "");
        kit.answered("authorize()", 200, 0, 0);
        kit.consent(0, 5, 1, true);
        kit.answered("consent()", 302, 0, 31);
        kit.put("tape");
        kit.end(0);
        kit.answered("feed(), end() leave it", 302, 0, 31);
        kit.redeem(1);
        kit.answered("token()", 200, 0, 133);
        kit.revoke("client_id=z");
        kit.answered("revoke()", 401, 6, 26);
        kit.check(Kit.handle(2), 1);
        kit.answered("check()", 403, 10, 0);
        kit.token("");
        kit.answered("token()", 400, 1, 27);
        kit.check(Kit.handle(2), 0);
        kit.answered("check()", 200, 0, 0);
    }

    private static void out() {
        Kit kit = Kit.world();
        Kit.due("out(0) of an empty OUT", Kit.NONE, kit.out(0));
        kit.authorize("client_id=x");
        Kit.due("outs()", 25, kit.outs());
        Kit.due("out(0)", 'u', kit.out(0));
        Kit.due("out(1)", ':', kit.out(1));
        Kit.due("out(24)", 't', kit.out(24));
        Kit.due("out(25)", Kit.NONE, kit.out(25));
        Kit.due("out(-1)", Kit.NONE, kit.out(-1));
        Kit.due("out(lowest)", Kit.NONE, kit.out(Integer.MIN_VALUE));
        Kit.due("out(highest)", Kit.NONE, kit.out(Integer.MAX_VALUE));
        kit.ask("x", "");
        Kit.due("outs() of an empty OUT", 0, kit.outs());
        Kit.due("nothing of the earlier OUT is left", Kit.NONE, kit.out(0));
    }

    private static void codes() {
        Kit kit = Kit.world();
        Kit.due("code(0, 0) without CODES", Kit.NO_SUCH, Kit.thrown(() -> kit.code(0, 0)));
        kit.give("y", 5, 9, 1);
        kit.give("x", 2, -9, 2);
        int[][] want = {{0, 1, 9, 5, Kit.NONE}, {0, 0, -9, 2, Kit.NONE}};
        for (int k = 0; k < 2; k++) {
            for (int what = 0; what < 5; what++) {
                Kit.due("code(" + k + ", " + what + ")", want[k][what], kit.code(k, what));
            }
        }
        kit.roll(3, 4);
        kit.redeem(2);
        Kit.due("redeemed", 1, kit.code(1, 0));
        Kit.due("its FAMILY", 0, kit.code(1, 4));
        kit.tick(60);
        Kit.due("redeemed, and late", 1, kit.code(1, 0));
        Kit.due("late", 2, kit.code(0, 0));
        Kit.due("its FAMILY", Kit.NONE, kit.code(0, 4));
        int[] none = {-1, 2, Integer.MIN_VALUE, Integer.MAX_VALUE};
        for (int k : none) {
            Kit.due("code(" + k + ", 0)", Kit.NO_SUCH, Kit.thrown(() -> kit.code(k, 0)));
        }
        int[] noWhat = {-1, 5, Integer.MIN_VALUE, Integer.MAX_VALUE};
        for (int what : noWhat) {
            Kit.due("code(0, " + what + ")", Kit.NO_SUCH, Kit.thrown(() -> kit.code(0, what)));
        }
        kit.throwing("code(2, 0)", Kit.NO_SUCH, 0, () -> kit.code(2, 0));
        kit.throwing("family(1, 0)", Kit.NO_SUCH, 0, () -> kit.family(1, 0));
    }

    private static void families() {
        Kit kit = Kit.world();
        Kit.due("family(0, 0) without FAMILIES", Kit.NO_SUCH, Kit.thrown(() -> kit.family(0, 0)));
        kit.start(1, 3, 5);
        kit.start(11, 2, -6);
        kit.roll(21, 22);
        kit.turn(13, "");
        int[][] want = {{0, 0, 5, 3, 1, 0}, {0, 0, -6, 2, 2, 1}};
        for (int k = 0; k < 2; k++) {
            for (int what = 0; what < 6; what++) {
                Kit.due("family(" + k + ", " + what + ")", want[k][what], kit.family(k, what));
            }
        }
        kit.redeem(1);
        Kit.due("TAKEN BACK", 1, kit.family(0, 0));
        Kit.due("none is good", 0, kit.family(0, 4));
        Kit.due("the other is well", 0, kit.family(1, 0));
        int[] none = {-1, 2, Integer.MIN_VALUE, Integer.MAX_VALUE};
        for (int k : none) {
            Kit.due("family(" + k + ", 0)", Kit.NO_SUCH, Kit.thrown(() -> kit.family(k, 0)));
        }
        int[] noWhat = {-1, 6, Integer.MIN_VALUE, Integer.MAX_VALUE};
        for (int what : noWhat) {
            Kit.due("family(0, " + what + ")", Kit.NO_SUCH, Kit.thrown(() -> kit.family(0, what)));
        }
    }

    private static void counts() {
        Kit kit = Kit.world();
        kit.start(1, 3, 5);
        kit.start(11, 3, 5);
        kit.start(21, 3, 5);
        kit.roll(31, 32, 33, 34, 35, 36);
        kit.turn(3, "");
        kit.turn(13, "");
        kit.turn(13, "");
        kit.ask("x", "");
        kit.ask("x", "");
        kit.give("y", 1, 1, 37);
        kit.consent(3, 1, 1, false);
        kit.tick(77);
        kit.put("tape");
        int[] want = {3, 2, 2, 6, 1, 4, 3, 5, 5, 1, 77, 4};
        for (int what = 0; what < 12; what++) {
            Kit.due("count(" + what + ")", want[what], kit.count(what));
        }
        Kit.due("count(-1)", Kit.NONE, kit.count(-1));
        Kit.due("count(12)", Kit.NONE, kit.count(12));
        Kit.due("count(lowest)", Kit.NONE, kit.count(Integer.MIN_VALUE));
        Kit.due("count(highest)", Kit.NONE, kit.count(Integer.MAX_VALUE));
    }
}
