/** Promise 15 (check). */
public final class CheckTest {
    public static void main(String[] args) {
        checks();
        none();
        exceptions();
        Kit.close();
    }

    private static void checks() {
        Kit kit = Kit.world();
        kit.start(1, 2, Integer.MIN_VALUE);
        kit.start(11, 3, 0);
        Kit.due("w", Integer.MIN_VALUE, kit.check(Kit.handle(2), 1));
        kit.answered("w", 200, 0, 0);
        Kit.due("the TAPE behind it", 0, kit.count(11));
        Kit.due("r, that it has not", 0, kit.check(Kit.handle(2), 0));
        kit.answered("r, that it has not", 403, 10, 0);
        Kit.due("a, that it has not", 0, kit.check(Kit.handle(2), 2));
        kit.answered("a, that it has not", 403, 10, 0);
        Kit.due("an owner of 0", 0, kit.check(Kit.handle(12), 0));
        kit.answered("an owner of 0", 200, 0, 0);
        kit.tick(600);
        Kit.due("late, without the SCOPE", 0, kit.check(Kit.handle(2), 0));
        kit.answered("late, without the SCOPE", 401, 9, 0);
    }

    private static void none() {
        Kit kit = Kit.world();
        kit.start(1, 3, 5);
        String good = Kit.handle(2);
        String[] wrong = {"", "a", good.substring(0, 21), good + "A", " " + good, good.substring(0, 21) + "h", "token=" + good,
            "%" + good.substring(1), Kit.handle(1), Kit.handle(3), good.toLowerCase(), good + "\0"};
        for (String handle : wrong) {
            kit.authorize("client_id=x");
            Kit.due("check of '" + handle + "'", 0, kit.check(handle, 0));
            kit.answered("check of '" + handle + "'", 401, 9, 0);
            Kit.due("the TAPE behind it", 0, kit.count(11));
        }
        Kit.due("the right one", 5, kit.check(good, 0));
    }

    private static void exceptions() {
        Kit kit = Kit.world();
        kit.start(1, 3, 5);
        int[] noScopes = {-1, 3, 8, 32, Integer.MIN_VALUE, Integer.MAX_VALUE};
        for (int scope : noScopes) {
            kit.throwing("check(" + scope + ")", Kit.INDEX, 0, () -> kit.check(Kit.handle(2), scope));
        }
        Kit empty = new Kit();
        empty.throwing("check(0) without SCOPES", Kit.INDEX, 0, () -> empty.check("a", 0));
    }
}
