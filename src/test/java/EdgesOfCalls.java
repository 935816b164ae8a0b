import java.util.ArrayList;
import java.util.List;

/** The edges of what stands behind the Terms: when the TAPE is used up, what is set, and which exception is thrown. */
final class EdgesOfCalls {
    private static final int OWNER = 5;

    static void run() {
        calls512();
        requestsWithin512();
        usesTheTapeUp();
        usesTheTapeUpWhereItThrows();
        leavesTheTape();
        setsAll();
        setsNothing();
        setsNothingWhereItThrows();
        firstException();
        changesNothingElse();
        noSuchClientOrScope();
    }

    private static void calls512() {
        Doc.says("An object is used for at most 512 calls after it has been made; what later calls answer is free.");
        for (int last = 510; last <= 512; last++) {
            Kit kit = Kit.world();
            kit.start(1, 3, OWNER);
            kit.roll(4, 5);
            kit.put("grant_type=refresh_token&client_id=x&refresh_token=" + Kit.handle(3));
            while (kit.calls() < last - 1) {
                kit.tick(1);
            }
            Kit.due("token() as call " + last, 200, kit.token());
            Kit.due("how many calls that were", last, kit.calls());
        }
        Kit kit = Kit.world();
        kit.start(1, 3, OWNER);
        kit.put(Kit.handle(2));
        while (kit.calls() < 511) {
            kit.out(kit.calls());
        }
        Kit.due("check() as call 512", OWNER, kit.check(0));
    }

    /** About as many REQUESTS as 512 calls can make: each FORM but the first comes from OUT. */
    private static void requestsWithin512() {
        Doc.says("An object is used for at most 512 calls after it has been made; what later calls answer is free.");
        Kit kit = new Kit();
        kit.scope("r");
        kit.client("x", null, 1, true);
        // The REDIRECT holds a FORM up to its code_challenge, which is the state, so that OUT has it all.
        String form = "client_id=x&response_type=code&code_challenge_method=S256&b?&code_challenge=";
        kit.redirect(0, form);
        kit.authorize(form + Kit.CHALLENGE + "&state=" + Kit.CHALLENGE);
        kit.consent(0, 0, 1, false);
        int state = form.length() + 1 + "error=access_denied".length();
        int request = 1;
        while (kit.calls() + 5 <= 512) {
            kit.again(0, form.length());
            kit.again(state + 7, 43);
            kit.again(state, 50);
            Kit.due("REQUEST " + request, request, kit.authorize());
            Kit.due("no to REQUEST " + request, Kit.NONE, kit.consent(request, 0, 1, false));
            request++;
        }
        Kit.due("more than 90 REQUESTS", 1, request > 90 ? 1 : 0);
    }

    private static final String USES = "\"Uses the TAPE up\": it is empty behind the call, whatever comes of it.";

    private static void usesTheTapeUp() {
        Doc.says(USES);
        Kit kit = Kit.world();
        kit.scope("b");
        used(kit, "scope()");
        kit.client("b", null, 0, false);
        used(kit, "client()");
        kit.redirect(0, "b");
        used(kit, "redirect()");
        String[] forms = {"", "%", "client_id=y", "client_id=z", "client_id=x", "client_id=x&grant_type=x", "a".repeat(400),
            "client_id=y&response_type=code" + Kit.S256, "client_id=x&token=a", Kit.handle(2)};
        for (String form : forms) {
            Kit each = Kit.world();
            each.start(1, 3, OWNER);
            each.authorize(form);
            used(each, "authorize() of " + form);
            each.token(form);
            used(each, "token() of " + form);
            each.revoke(form);
            used(each, "revoke() of " + form);
            each.check(form, 0);
            used(each, "check() of " + form);
            each.check(form, 2);
            used(each, "check() of " + form);
        }
        Kit turned = Kit.world();
        turned.start(1, 3, OWNER);
        used(turned, "token()");
        turned.turn(3, "");
        used(turned, "token()");
        turned.roll(4, 5);
        turned.turn(3, "");
        used(turned, "token()");
        turned.turn(3, "");
        used(turned, "token()");
    }

    private static void used(Kit kit, String what) {
        Kit.due("the TAPE behind " + what, 0, kit.count(11));
    }

    private static void usesTheTapeUpWhereItThrows() {
        Doc.says(USES);
        String[] texts = {"", "r", "new", "a b", "x", "\0", "w".repeat(100)};
        int[] numbers = {-1, 0, 2, 3, Integer.MAX_VALUE};
        for (String text : texts) {
            for (int number : numbers) {
                Kit kit = Kit.world();
                Kit.thrown(() -> kit.scope(text));
                used(kit, "scope() of " + text);
                Kit.thrown(() -> kit.client(text, null, number, true));
                used(kit, "client() of " + text);
                Kit.thrown(() -> kit.client(text, "s", number, true));
                used(kit, "client() of " + text + ", CONFIDENTIAL");
                Kit.thrown(() -> kit.redirect(number, text));
                used(kit, "redirect() of " + text);
                Kit.thrown(() -> kit.check(text, number));
                used(kit, "check() of " + text);
            }
        }
        Kit full = Kit.world();
        for (int k = 3; k < 8; k++) {
            full.scope("s" + k);
        }
        for (int k = 2; k < 8; k++) {
            full.client("c" + k, null, 0, true);
        }
        full.redirect(0, "b");
        full.redirect(0, "c");
        full.throwing("scope() with 8", Kit.UNSUPPORTED, 0, () -> full.scope("new"));
        full.throwing("client() with 8", Kit.UNSUPPORTED, 0, () -> full.client("new", null, 0, true));
        full.throwing("redirect() with 3", Kit.UNSUPPORTED, 0, () -> full.redirect(0, "new"));
    }

    /** The calls that do not use the TAPE up, each once so that it answers and once so that it can't. */
    private static List<Runnable> others(Kit kit) {
        List<Runnable> calls = new ArrayList<>();
        calls.add(() -> kit.lives(60, 600, 10000));
        calls.add(() -> kit.lives(0, 1, 1));
        calls.add(() -> kit.dice(7, 7, 7, 7));
        calls.add(() -> kit.tick(1));
        calls.add(() -> kit.tick(-1));
        calls.add(() -> kit.consent(9, 1, 1, true));
        calls.add(() -> kit.consent(1, 1, 0, true));
        calls.add(() -> kit.status());
        calls.add(() -> kit.error());
        calls.add(() -> kit.out(0));
        calls.add(() -> kit.out(-1));
        calls.add(() -> kit.outs());
        calls.add(() -> kit.code(0, 0));
        calls.add(() -> kit.code(9, 0));
        calls.add(() -> kit.family(0, 4));
        calls.add(() -> kit.family(0, 9));
        calls.add(() -> kit.count(0));
        calls.add(() -> kit.count(99));
        calls.add(() -> kit.end(-1));
        calls.add(() -> kit.again(0, -1));
        return calls;
    }

    private static void leavesTheTape() {
        Doc.says(USES);
        Kit kit = Kit.world();
        kit.start(1, 3, OWNER);
        kit.ask("x", "");
        kit.ask("x", "");
        kit.put(Kit.handle(2));
        for (Runnable call : others(kit)) {
            Kit.thrown(call);
            Kit.due("the TAPE behind a call that does not use it up", 22, kit.count(11));
        }
        kit.consent(1, 1, 1, true);
        Kit.due("the TAPE behind yes", 22, kit.count(11));
        kit.consent(2, 1, 1, false);
        Kit.due("the TAPE behind no", 22, kit.count(11));
        Kit.due("its bytes", OWNER, kit.check(0));
    }

    private static final String SET = "authorize(), consent(), token(), revoke(), check() set status, error and OUT, "
        + "but where they throw.";

    /** Each of the five sets all three, whatever another had set. */
    private static void setsAll() {
        Doc.says(SET);
        for (int first = 0; first < 6; first++) {
            for (int then = 0; then < 6; then++) {
                Kit kit = Kit.world();
                kit.start(1, 3, OWNER);
                kit.ask("x", "");
                kit.ask("x", "");
                request(kit, first, 1);
                String[] want = {"400 6 0", "302 3 23", "400 1 27", "200 0 0", "403 10 0", "302 1 25"};
                request(kit, then, 2);
                Kit.due("request " + then + " behind " + first, want[then], kit.status() + " " + kit.error() + " " + kit.outs());
            }
        }
    }

    private static void request(Kit kit, int kind, int number) {
        switch (kind) {
            case 0: kit.authorize(""); break;
            case 1: kit.consent(number, 1, 1, false); break;
            case 2: kit.token(""); break;
            case 3: kit.revoke("client_id=x&token=a"); break;
            case 4: kit.check(Kit.handle(2), 2); break;
            default: kit.authorize("client_id=x");
        }
    }

    private static void setsNothing() {
        Doc.says(SET);
        Kit kit = Kit.world();
        kit.start(1, 3, OWNER);
        kit.turn(9, "");
        for (Runnable call : others(kit)) {
            Kit.thrown(call);
            kit.answered("behind another call", 400, 7, 25);
        }
        kit.scope("b");
        kit.client("b", null, 0, true);
        kit.redirect(0, "b");
        kit.again(0, 5);
        kit.end(0);
        kit.refused("behind the other calls", 400, 7, "invalid_grant");
    }

    private static void setsNothingWhereItThrows() {
        Doc.says(SET);
        Kit kit = Kit.world();
        kit.start(1, 3, OWNER);
        kit.ask("x", "");
        kit.turn(9, "");
        kit.throwing("consent()", Kit.NO_SUCH, 0, () -> kit.consent(0, 1, 1, true));
        kit.throwing("consent()", Kit.ILLEGAL, 0, () -> kit.consent(1, 1, 4, true));
        kit.throwing("consent()", Kit.STATE, 0, () -> kit.consent(1, 1, 1, true));
        kit.throwing("check()", Kit.INDEX, 0, () -> kit.check(Kit.handle(2), 3));
        kit.refused("OUT then", 400, 7, "invalid_grant");
    }

    private static final String FIRST = "Of several exceptions the one told first is thrown; "
        + "a call that throws changes nothing else.";

    private static void firstException() {
        Doc.says(FIRST);
        Kit full = new Kit();
        for (int k = 0; k < 8; k++) {
            full.scope("s" + k);
            full.client("c" + k, null, 0, true);
        }
        Kit.due("scope(): no WORD, and 8", Kit.ILLEGAL, Kit.thrown(() -> full.scope("")));
        Kit.due("scope(): there is one, and 8", Kit.ILLEGAL, Kit.thrown(() -> full.scope("s7")));
        Kit.due("scope(): 8", Kit.UNSUPPORTED, Kit.thrown(() -> full.scope("s8")));
        Kit.due("client(): no ID, and 8", Kit.ILLEGAL, Kit.thrown(() -> full.client("", null, 0, true)));
        Kit.due("client(): no SECRET, and 8", Kit.ILLEGAL, Kit.thrown(() -> full.client("c8", "", 0, true)));
        Kit.due("client(): a bit of no SCOPE, and 8", Kit.ILLEGAL, Kit.thrown(() -> full.client("c8", null, 256, true)));
        Kit.due("client(): there is one, and 8", Kit.ILLEGAL, Kit.thrown(() -> full.client("c0", null, 0, true)));
        Kit.due("client(): 8", Kit.UNSUPPORTED, Kit.thrown(() -> full.client("c8", null, 255, true)));
        for (int k = 0; k < 3; k++) {
            full.redirect(0, "u" + k);
        }
        Kit.due("redirect(): no CLIENT, no REDIRECT", Kit.INDEX, Kit.thrown(() -> full.redirect(8, "#")));
        Kit.due("redirect(): no REDIRECT, and 3", Kit.ILLEGAL, Kit.thrown(() -> full.redirect(0, "#")));
        Kit.due("redirect(): 3", Kit.UNSUPPORTED, Kit.thrown(() -> full.redirect(0, "u")));
        Kit kit = Kit.world();
        kit.ask("x", "");
        Kit.due("consent(): no REQUEST, yes to none, no HANDLE", Kit.NO_SUCH, Kit.thrown(() -> kit.consent(1, 1, 0, true)));
        Kit.due("consent(): no REQUEST, no HANDLE", Kit.NO_SUCH, Kit.thrown(() -> kit.consent(1, 1, 1, true)));
        Kit.due("consent(): yes to none, no HANDLE", Kit.ILLEGAL, Kit.thrown(() -> kit.consent(0, 1, 0, true)));
        Kit.due("consent(): yes to another, no HANDLE", Kit.ILLEGAL, Kit.thrown(() -> kit.consent(0, 1, 4, true)));
        Kit.due("consent(): no HANDLE", Kit.STATE, Kit.thrown(() -> kit.consent(0, 1, 1, true)));
    }

    private static void changesNothingElse() {
        Doc.says(FIRST);
        Kit early = Kit.world();
        early.throwing("scope()", Kit.ILLEGAL, 0, () -> early.scope("r"));
        early.throwing("client()", Kit.ILLEGAL, 0, () -> early.client("x", "new", 7, false));
        Kit.due("x has no SECRET", 400, early.token("grant_type=x&client_id=x"));
        Kit.due("x may ask for r and w alone", Kit.NONE, early.ask("x", "&scope=a"));
        Kit kit = Kit.world();
        kit.start(1, 3, OWNER);
        kit.ask("x", "&state=s");
        kit.roll(1, 2, 3);
        kit.throwing("redirect()", Kit.ILLEGAL, 0, () -> kit.redirect(0, "#"));
        kit.throwing("redirect()", Kit.INDEX, 0, () -> kit.redirect(2, "q"));
        kit.throwing("lives()", Kit.ILLEGAL, 0, () -> kit.lives(1, 1, 0));
        kit.throwing("tick()", Kit.ILLEGAL, 0, () -> kit.tick(100001));
        kit.throwing("consent()", Kit.STATE, 0, () -> kit.consent(1, 1, 1, true));
        kit.roll(6);
        kit.throwing("consent()", Kit.ILLEGAL, 0, () -> kit.consent(1, 1, 4, true));
        Kit.due("the REQUEST is open still", 1, kit.consent(1, 1, 1, true));
        kit.answered("with its one REDIRECT, its state, the first die", 302, 0, "u:v?code=" + Kit.handle(6) + "&state=s");
        kit.tick(59);
        Kit.due("with the LIFE at first", 0, kit.code(1, 0));
        kit.roll(7, 8);
        Kit.due("with the two that came behind", 200, kit.redeem(6));
    }

    private static void noSuchClientOrScope() {
        Doc.says("IndexOutOfBoundsException: there is no such CLIENT, SCOPE.");
        for (int many = 0; many <= 8; many++) {
            Kit kit = new Kit();
            for (int k = 0; k < many; k++) {
                kit.scope("s" + k);
                kit.client("c" + k, null, 0, true);
            }
            int[] numbers = {Integer.MIN_VALUE, -1, 0, many - 1, many, many + 1, 8, 32, Integer.MAX_VALUE};
            for (int n : numbers) {
                String want = n >= 0 && n < many ? Kit.NO : Kit.INDEX;
                Kit.due("redirect(" + n + ") with " + many, want, Kit.thrown(() -> kit.redirect(n, "u")));
                Kit.due("check(" + n + ") with " + many, want, Kit.thrown(() -> kit.check("a", n)));
            }
        }
    }
}
