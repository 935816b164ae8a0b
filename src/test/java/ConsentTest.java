/** Promise 12 (consent). */
public final class ConsentTest {
    public static void main(String[] args) {
        yes();
        no();
        noSuchRequest();
        illegal();
        withoutHandle();
        whichExceptionIsFirst();
        manyCodes();
        Kit.close();
    }

    private static void yes() {
        Kit kit = Kit.world();
        kit.ask("x", "&state=a+b");
        kit.ask("y", "&scope=r+a");
        kit.dice(0xfbeff7df, 0xbeffffff, 0x00108310, -1);
        kit.dice(1, 2, 3, 4);
        kit.put("stays");
        Kit.due("yes to some", 0, kit.consent(0, -5, 2, true));
        kit.answered("yes", 302, 0, "u:v?code=" + Kit.handle(0xfbeff7df, 0xbeffffff, 0x00108310, -1) + "&state=a%20b");
        Kit.due("the TAPE stays", 5, kit.count(11));
        kit.end(0);
        Kit.due("DICE that wait", 1, kit.count(2));
        Kit.due("open ones", 1, kit.count(4));
        Kit.due("its CLIENT", 0, kit.code(0, 1));
        Kit.due("its owner", -5, kit.code(0, 2));
        Kit.due("its SCOPES", 2, kit.code(0, 3));
        Kit.due("yes to all of another", 1, kit.consent(1, Integer.MAX_VALUE, 5, true));
        kit.answered("yes to all of another", 302, 0, "u:v?code=AAAAAQAAAAIAAAADAAAABA");
        Kit.due("its CLIENT", 1, kit.code(1, 1));
        Kit.due("its owner", Integer.MAX_VALUE, kit.code(1, 2));
        Kit.due("its SCOPES", 5, kit.code(1, 3));
        Kit.due("CODES", 2, kit.count(5));
        kit.throwing("a REQUEST that is not open", Kit.NO_SUCH, 0, () -> kit.consent(0, 1, 1, true));
    }

    private static void no() {
        Kit kit = Kit.world();
        kit.redirect(1, "q?");
        kit.ask("x", "");
        kit.ask("y", "&redirect_uri=q?&state=%c3");
        Kit.due("no", Kit.NONE, kit.consent(0, 1, 1, false));
        kit.answered("no", 302, 3, "u:v?error=access_denied");
        Kit.due("no to SCOPES that it has not", Kit.NONE, kit.consent(1, 1, -1, false));
        kit.answered("no, with state", 302, 3, "q?&error=access_denied&state=%C3");
        Kit.due("open ones", 0, kit.count(4));
        Kit.due("REQUESTS", 2, kit.count(3));
        Kit.due("CODES", 0, kit.count(5));
        kit.roll(1);
        kit.throwing("yes behind no", Kit.NO_SUCH, 0, () -> kit.consent(0, 1, 1, true));
        kit.throwing("no behind no", Kit.NO_SUCH, 0, () -> kit.consent(0, 1, 1, false));
        kit.ask("x", "");
        Kit.due("no to none, with DICE", Kit.NONE, kit.consent(2, 1, 0, false));
        Kit.due("DICE that wait", 1, kit.count(2));
    }

    private static void noSuchRequest() {
        Kit kit = Kit.world();
        kit.throwing("consent without REQUESTS", Kit.NO_SUCH, 0, () -> kit.consent(0, 1, 1, false));
        kit.ask("x", "");
        kit.roll(1);
        int[] none = {-1, 1, 200, Integer.MIN_VALUE, Integer.MAX_VALUE};
        for (int request : none) {
            kit.throwing("consent(" + request + ")", Kit.NO_SUCH, 0, () -> kit.consent(request, 1, 1, true));
        }
    }

    private static void illegal() {
        Kit kit = Kit.world();
        kit.ask("x", "&scope=w");
        kit.roll(1);
        int[] none = {0, 1, 3, 4, 6, -1, Integer.MIN_VALUE};
        for (int scopes : none) {
            kit.throwing("yes to " + scopes, Kit.ILLEGAL, 0, () -> kit.consent(0, 1, scopes, true));
        }
        Kit.due("yes to w", 0, kit.consent(0, 1, 2, true));
    }

    private static void withoutHandle() {
        Kit kit = Kit.world();
        kit.ask("x", "");
        kit.ask("x", "");
        kit.put("tape");
        kit.throwing("yes without DICE", Kit.STATE, 4, () -> kit.consent(0, 1, 1, true));
        kit.end(0);
        kit.roll(7);
        kit.consent(0, 1, 1, true);
        kit.roll(7, 7);
        kit.throwing("yes with DICE that were used", Kit.STATE, 0, () -> kit.consent(1, 1, 1, true));
        Kit.due("none is thrown away", 2, kit.count(2));
        kit.roll(8, 9);
        Kit.due("yes with one that was not", 1, kit.consent(1, 1, 1, true));
        Kit.due("those ahead are thrown away", 1, kit.count(2));
        kit.answered("yes with one that was not", 302, 0, "u:v?code=" + Kit.handle(8));
    }

    private static void whichExceptionIsFirst() {
        Kit kit = Kit.world();
        kit.throwing("no REQUEST, no SCOPES, no HANDLE", Kit.NO_SUCH, 0, () -> kit.consent(0, 1, 0, true));
        kit.ask("x", "");
        kit.throwing("no SCOPES, no HANDLE", Kit.ILLEGAL, 0, () -> kit.consent(0, 1, 0, true));
        kit.throwing("no HANDLE", Kit.STATE, 0, () -> kit.consent(0, 1, 1, true));
        Kit.due("no needs no HANDLE", Kit.NONE, kit.consent(0, 1, 0, false));
    }

    private static void manyCodes() {
        Kit kit = Kit.world();
        for (int k = 0; k < 35; k++) {
            Kit.due("CODE " + k, k, kit.give("x", 1, k, k));
        }
        Kit.due("CODES", 35, kit.count(5));
        Kit.due("the owner of the last", 34, kit.code(34, 2));
    }
}
