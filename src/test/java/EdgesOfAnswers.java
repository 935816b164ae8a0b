/** The edges that the promises 11 to 22 name: the requests' answers, and the looks. */
final class EdgesOfAnswers {
    private static final int LOWEST = Integer.MIN_VALUE;
    private static final int HIGHEST = Integer.MAX_VALUE;

    static void run() {
        authorize();
        consent();
        consentNoSuch();
        consentIllegal();
        consentState();
        token();
        revoke();
        check();
        checkNotGood();
        checkWithoutScope();
        status();
        error();
        out();
        outs();
        code();
        codeThrows();
        family();
        familyThrows();
        count();
        countOfAnother();
    }

    private static void authorize() {
        Doc.says("Uses the TAPE up, as told in 2: the REQUEST's number, or NONE.");
        Kit kit = Kit.world();
        Kit.due("status 400", Kit.NONE, kit.authorize("client_id=z"));
        Kit.due("the TAPE then", 0, kit.count(11));
        Kit.due("status 302", Kit.NONE, kit.authorize("client_id=x"));
        Kit.due("the TAPE then", 0, kit.count(11));
        Kit.due("status 200", 0, kit.ask("x", ""));
        Kit.due("the TAPE then", 0, kit.count(11));
        Kit.due("an empty TAPE", Kit.NONE, kit.authorize());
        Kit.due("status 200", 1, kit.ask("x", ""));
        kit.consent(0, 1, 1, false);
        Kit.due("numbers go on", 2, kit.ask("y", ""));
    }

    private static void consent() {
        Doc.says("An owner (any number) says yes (to the SCOPES told) or no, as told in 2: the CODE's number (from 0 on), "
            + "or NONE for no.");
        int[] owners = {0, 1, -1, 7, LOWEST, HIGHEST};
        Kit kit = Kit.world();
        for (int k = 0; k < owners.length; k++) {
            kit.ask("x", "");
            kit.ask("x", "");
            kit.roll(k);
            Kit.due("no of " + owners[k], Kit.NONE, kit.consent(2 * k, owners[k], 3, false));
            Kit.due("yes of " + owners[k], k, kit.consent(2 * k + 1, owners[k], 1 + k % 3, true));
            Kit.due("its owner", owners[k], kit.code(k, 2));
            Kit.due("its SCOPES", 1 + k % 3, kit.code(k, 3));
        }
        for (int owner : owners) {
            Kit each = Kit.world();
            each.start(1, 3, owner);
            Kit.due("the FAMILY's owner", owner, each.family(0, 2));
            Kit.due("check()", owner, each.check(Kit.handle(2), 0));
            each.answered("check()", 200, 0, 0);
        }
    }

    private static void consentNoSuch() {
        Doc.says("NoSuchElementException: there is no such REQUEST, or it is not open;");
        for (int many = 0; many <= 3; many++) {
            Kit kit = Kit.world();
            for (int k = 0; k < many; k++) {
                kit.ask("x", "");
            }
            kit.roll(1);
            int[] none = {many, many + 1, -1, 199, 200, LOWEST, HIGHEST};
            for (int k : none) {
                Kit.due("yes to " + k + " of " + many, Kit.NO_SUCH, Kit.thrown(() -> kit.consent(k, 1, 1, true)));
                Kit.due("no to " + k + " of " + many, Kit.NO_SUCH, Kit.thrown(() -> kit.consent(k, 1, 1, false)));
            }
            Kit.due("open ones", many, kit.count(4));
            for (int k = many - 1; k >= 0; k--) {
                int last = k;
                Kit.due("an open one", Kit.NO, Kit.thrown(() -> kit.consent(last, 1, 1, last > 0)));
                Kit.due("one that is not open", Kit.NO_SUCH, Kit.thrown(() -> kit.consent(last, 1, 1, false)));
                Kit.due("one that is not open", Kit.NO_SUCH, Kit.thrown(() -> kit.consent(last, 1, 1, true)));
                kit.roll(k + 10);
            }
        }
    }

    private static void consentIllegal() {
        Doc.says("IllegalArgumentException: yes to none, or to one that the REQUEST has not;");
        int[] sets = {0, 1, 2, 3, 4, 5, 6, 7, 8, 9, 13, 128, 256, -1, LOWEST, LOWEST | 5, HIGHEST};
        for (int set : sets) {
            Kit kit = Kit.world();
            kit.ask("y", "&scope=r+a");
            kit.roll(1);
            boolean good = set == 1 || set == 4 || set == 5;
            Kit.due("yes to " + set + " of 5", good ? Kit.NO : Kit.ILLEGAL, Kit.thrown(() -> kit.consent(0, 1, set, true)));
            Kit.due("open ones", good ? 0 : 1, kit.count(4));
            Kit.due("DICE that wait", good ? 0 : 1, kit.count(2));
        }
        Kit none = Kit.world();
        none.ask("x", "&scope=+");
        none.roll(1);
        for (int set : sets) {
            Kit.due("yes to " + set + " of none", Kit.ILLEGAL, Kit.thrown(() -> none.consent(0, 1, set, true)));
        }
        Kit.due("no to none", Kit.NONE, none.consent(0, 1, 0, false));
    }

    private static void consentState() {
        Doc.says("IllegalStateException: yes, and there is no HANDLE, or there are 200 CODES.");
        Kit kit = Kit.world();
        kit.ask("x", "");
        kit.ask("x", "");
        kit.throwing("yes without DICE", Kit.STATE, 0, () -> kit.consent(0, 1, 1, true));
        kit.roll(1);
        Kit.due("yes with a die", 0, kit.consent(0, 1, 1, true));
        kit.roll(1);
        kit.throwing("yes with a die of that HANDLE", Kit.STATE, 0, () -> kit.consent(1, 1, 1, true));
        Kit.due("it waits still", 1, kit.count(2));
        Kit.due("no needs no HANDLE", Kit.NONE, kit.consent(1, 1, 1, false));
    }

    private static void token() {
        Doc.says("Uses the TAPE up, as told in 3: status.");
        Kit kit = Kit.world();
        kit.give("x", 3, 5, 1);
        Kit.due("status 400", 400, kit.token("a"));
        Kit.due("status 401", 401, kit.token("grant_type=x"));
        Kit.due("status 503", 503, kit.redeem(1));
        kit.roll(2, 3);
        Kit.due("status 200", 200, kit.redeem(1));
        Kit.due("the TAPE then", 0, kit.count(11));
        Kit.due("an empty TAPE", 400, kit.token());
        Kit.due("status()", 400, kit.status());
    }

    private static void revoke() {
        Doc.says("Uses the TAPE up, as told in 3: status.");
        Kit kit = Kit.world();
        Kit.due("status 400", 400, kit.revoke("%"));
        Kit.due("status 401", 401, kit.revoke("a"));
        Kit.due("status 400", 400, kit.revoke("client_id=x"));
        Kit.due("status 200", 200, kit.revoke("client_id=x&token=a"));
        Kit.due("the TAPE then", 0, kit.count(11));
        Kit.due("an empty TAPE", 401, kit.revoke());
        Kit.due("status()", 401, kit.status());
    }

    private static final String CHECK = "Uses the TAPE up: the HANDLE of an ACCESS token that is good: its owner, status 200, "
        + "error 0; else 0 with status 401, error 9 (none such, or not good), or 403, error 10: it has not the SCOPE. "
        + "OUT is empty.";

    private static void checks(Kit kit, String handle, int scope, int owner, int status, int error) {
        kit.token("");
        Kit.due("check(" + scope + ") of '" + handle + "'", owner, kit.check(handle, scope));
        kit.answered("check(" + scope + ") of '" + handle + "'", status, error, 0);
        Kit.due("the TAPE then", 0, kit.count(11));
    }

    private static void check() {
        Doc.says(CHECK);
        Kit kit = Kit.world();
        kit.start(1, 3, 5);
        kit.start(11, 2, -6);
        checks(kit, Kit.handle(2), 0, 5, 200, 0);
        checks(kit, Kit.handle(2), 1, 5, 200, 0);
        checks(kit, Kit.handle(12), 1, -6, 200, 0);
        kit.roll(4, 5);
        kit.turn(3, "");
        checks(kit, Kit.handle(4), 0, 5, 200, 0);
        checks(kit, Kit.handle(2), 0, 5, 200, 0);
    }

    private static void checkNotGood() {
        Doc.says(CHECK);
        String good = Kit.handle(2);
        String[] none = {"", "a", good.substring(0, 21), good.substring(1), good + "A", good + "=", " " + good, good + " ",
            good + "\0", good.substring(0, 21) + "h", "B" + good.substring(1), "%41" + good.substring(1), Kit.handle(1),
            Kit.handle(3), Kit.handle(4), "token=" + good, "a".repeat(500)};
        for (String handle : none) {
            Kit kit = Kit.world();
            kit.start(1, 3, 5);
            kit.roll(4);
            checks(kit, handle, 0, 0, 401, 9);
            checks(kit, handle, 2, 0, 401, 9);
            checks(kit, good, 0, 5, 200, 0);
        }
        Kit late = Kit.world();
        late.start(1, 3, 5);
        late.tick(599);
        checks(late, good, 0, 5, 200, 0);
        late.tick(1);
        checks(late, good, 0, 0, 401, 9);
        checks(late, good, 2, 0, 401, 9);
        Kit revoked = Kit.world();
        revoked.start(1, 3, 5);
        revoked.revoke("client_id=x&token=" + good);
        checks(revoked, good, 0, 0, 401, 9);
        checks(revoked, good, 2, 0, 401, 9);
        Kit back = Kit.world();
        back.start(1, 3, 5);
        back.redeem(1);
        checks(back, good, 0, 0, 401, 9);
        checks(back, good, 2, 0, 401, 9);
    }

    private static void checkWithoutScope() {
        Doc.says(CHECK);
        for (int set = 1; set <= 3; set++) {
            Kit kit = Kit.world();
            kit.start(1, set, 5);
            for (int scope = 0; scope < 3; scope++) {
                boolean has = (set >> scope & 1) == 1;
                checks(kit, Kit.handle(2), scope, has ? 5 : 0, has ? 200 : 403, has ? 0 : 10);
            }
        }
        Kit none = Kit.world();
        none.start(1, 3, 5);
        none.roll(4, 5);
        none.turn(3, "&scope=+");
        for (int scope = 0; scope < 3; scope++) {
            checks(none, Kit.handle(4), scope, 0, 403, 10);
        }
    }

    private static void status() {
        Doc.says("The status of the latest of these requests.");
        Kit kit = Kit.world();
        Kit.due("without a request", 0, kit.status());
        kit.ask("x", "");
        Kit.due("authorize()", 200, kit.status());
        kit.roll(1);
        kit.consent(0, 5, 3, true);
        Kit.due("consent()", 302, kit.status());
        kit.redeem(1);
        Kit.due("token()", 503, kit.status());
        kit.roll(2, 3);
        Kit.due("dice() is none of these", 503, kit.status());
        kit.redeem(1);
        Kit.due("token()", 200, kit.status());
        kit.revoke("");
        Kit.due("revoke()", 401, kit.status());
        kit.check(Kit.handle(2), 2);
        Kit.due("check()", 403, kit.status());
        Kit.due("twice", 403, kit.status());
        kit.authorize();
        Kit.due("authorize()", 400, kit.status());
    }

    private static void error() {
        Doc.says("Its error, 0 without one.");
        Kit kit = Kit.world();
        Kit.due("without a request", 0, kit.error());
        kit.authorize();
        Kit.due("authorize()", 6, kit.error());
        kit.ask("x", "");
        Kit.due("authorize(), a REQUEST", 0, kit.error());
        kit.token("a");
        Kit.due("token()", 1, kit.error());
        kit.roll(1, 2, 3);
        kit.consent(0, 5, 3, true);
        Kit.due("consent(), yes", 0, kit.error());
        kit.revoke("a");
        Kit.due("revoke()", 6, kit.error());
        kit.redeem(1);
        Kit.due("token(), tokens", 0, kit.error());
        kit.check("a", 0);
        Kit.due("check()", 9, kit.error());
        kit.revoke("client_id=x&token=a");
        Kit.due("revoke(), nothing", 0, kit.error());
        kit.check(Kit.handle(2), 2);
        Kit.due("check()", 10, kit.error());
        kit.check(Kit.handle(2), 1);
        Kit.due("check(), good", 0, kit.error());
    }

    private static void out() {
        Doc.says("Byte i of OUT; NONE if there is none.");
        int[] odd = {-1, -2, LOWEST, HIGHEST, 2000, 6200, 100000};
        Kit kit = Kit.world();
        Kit.due("out(0) of an empty OUT", Kit.NONE, kit.out(0));
        String want = "u:v?error=invalid_request";
        kit.authorize("client_id=x");
        for (int i = 0; i < want.length(); i++) {
            Kit.due("out(" + i + ")", want.charAt(i), kit.out(i));
        }
        Kit.due("one behind the last", Kit.NONE, kit.out(want.length()));
        for (int i : odd) {
            Kit.due("out(" + i + ")", Kit.NONE, kit.out(i));
        }
        kit.token("");
        kit.authorize("client_id=x&state=s");
        Kit.due("of a longer OUT", 's', kit.out(32));
        kit.authorize("client_id=x");
        Kit.due("behind a shorter OUT", Kit.NONE, kit.out(25));
        kit.authorize();
        Kit.due("behind an empty OUT", Kit.NONE, kit.out(0));
    }

    private static void outs() {
        Doc.says("How many bytes OUT has.");
        Kit kit = Kit.world();
        Kit.due("outs()", 0, kit.outs());
        kit.authorize("client_id=x");
        Kit.due("outs()", 25, kit.outs());
        kit.authorize("client_id=x&state=s");
        Kit.due("outs()", 33, kit.outs());
        kit.authorize("client_id=x&state=%20");
        Kit.due("outs()", 35, kit.outs());
        kit.authorize();
        Kit.due("outs()", 0, kit.outs());
        kit.token();
        Kit.due("outs()", 27, kit.outs());
        kit.ask("x", "");
        Kit.due("outs()", 0, kit.outs());
    }

    private static void code() {
        Doc.says("Of CODE k, what 0: 0 it can be redeemed, 1 it was redeemed, 2 it is not good any more "
            + "(and was not redeemed), 1: its CLIENT, 2: owner, 3: SCOPES, 4: its FAMILY (NONE).");
        for (int late = 59; late <= 61; late++) {
            Kit kit = Kit.world();
            kit.start(21, 3, 1);
            kit.give("y", 5, -9, 1);
            kit.give("x", 2, 9, 2);
            kit.roll(3, 4);
            kit.redeem(2);
            kit.tick(late);
            int[][] want = {{1, 0, 1, 3, 0}, {late < 60 ? 0 : 2, 1, -9, 5, Kit.NONE}, {1, 0, 9, 2, 1}};
            for (int k = 0; k < 3; k++) {
                for (int what = 0; what < 5; what++) {
                    Kit.due("code(" + k + ", " + what + ") at " + late, want[k][what], kit.code(k, what));
                }
            }
            kit.redeem(2);
            Kit.due("of a FAMILY that is TAKEN BACK", 1, kit.code(2, 0));
            Kit.due("of a FAMILY that is TAKEN BACK", 1, kit.code(2, 4));
        }
    }

    private static void codeThrows() {
        Doc.says("NoSuchElementException: there is none such, or another what.");
        for (int many = 0; many <= 2; many++) {
            Kit kit = Kit.world();
            for (int k = 0; k < many; k++) {
                kit.give("x", 3, 5, k);
            }
            int[] numbers = {LOWEST, -1, 0, 1, 2, 3, 4, 5, 6, 199, 200, HIGHEST};
            for (int k : numbers) {
                for (int what : numbers) {
                    boolean good = k >= 0 && k < many && what >= 0 && what <= 4;
                    Kit.due("code(" + k + ", " + what + ") of " + many, good ? Kit.NO : Kit.NO_SUCH,
                        Kit.thrown(() -> kit.code(k, what)));
                }
            }
        }
    }

    private static void family() {
        Doc.says("Of FAMILY k, what 0: 0 it is well, 1 it is TAKEN BACK, 1: its CLIENT, 2: owner, 3: SCOPES, "
            + "4: how many ACCESS tokens of it are good now, 5: how often it TURNED.");
        Kit kit = Kit.world();
        kit.give("y", 4, -9, 1);
        kit.roll(2);
        kit.token("grant_type=authorization_code&client_id=y&client_secret=s&redirect_uri=u:v&code_verifier="
            + Kit.VERIFIER + "&code=" + Kit.handle(1));
        kit.tick(100);
        kit.start(11, 3, 9);
        families(kit, new int[][] {{0, 1, -9, 4, 1, 0}, {0, 0, 9, 3, 1, 0}});
        kit.tick(100);
        kit.roll(14, 15, 16, 17);
        kit.turn(13, "");
        families(kit, new int[][] {{0, 1, -9, 4, 1, 0}, {0, 0, 9, 3, 2, 1}});
        kit.turn(15, "&scope=r");
        families(kit, new int[][] {{0, 1, -9, 4, 1, 0}, {0, 0, 9, 3, 3, 2}});
        kit.tick(400);
        families(kit, new int[][] {{0, 1, -9, 4, 0, 0}, {0, 0, 9, 3, 3, 2}});
        kit.tick(99);
        families(kit, new int[][] {{0, 1, -9, 4, 0, 0}, {0, 0, 9, 3, 3, 2}});
        kit.tick(1);
        families(kit, new int[][] {{0, 1, -9, 4, 0, 0}, {0, 0, 9, 3, 2, 2}});
        kit.revoke("client_id=x&token=" + Kit.handle(14));
        families(kit, new int[][] {{0, 1, -9, 4, 0, 0}, {0, 0, 9, 3, 1, 2}});
        kit.turn(13, "");
        families(kit, new int[][] {{0, 1, -9, 4, 0, 0}, {1, 0, 9, 3, 0, 2}});
    }

    private static void families(Kit kit, int[][] want) {
        for (int k = 0; k < want.length; k++) {
            for (int what = 0; what < 6; what++) {
                Kit.due("family(" + k + ", " + what + ")", want[k][what], kit.family(k, what));
            }
        }
    }

    private static void familyThrows() {
        Doc.says("NoSuchElementException: there is none such, or another what.");
        for (int many = 0; many <= 2; many++) {
            Kit kit = Kit.world();
            for (int k = 0; k < many; k++) {
                kit.start(10 * k, 3, 5);
            }
            kit.give("x", 3, 5, 50);
            int[] numbers = {LOWEST, -1, 0, 1, 2, 3, 4, 5, 6, 199, 200, HIGHEST};
            for (int k : numbers) {
                for (int what : numbers) {
                    boolean good = k >= 0 && k < many && what >= 0 && what <= 5;
                    Kit.due("family(" + k + ", " + what + ") of " + many, good ? Kit.NO : Kit.NO_SUCH,
                        Kit.thrown(() -> kit.family(k, what)));
                }
            }
        }
    }

    private static void counts(Kit kit, int... want) {
        for (int what = 0; what < want.length; what++) {
            Kit.due("count(" + what + ")", want[what], kit.count(what));
        }
    }

    private static void count() {
        Doc.says("0 SCOPES, 1 CLIENTS, 2 DICE that wait, 3 REQUESTS, 4 of them open, 5 CODES, 6 FAMILIES, "
            + "7 ACCESS tokens, 8 REFRESH tokens, 9 FAMILIES that are TAKEN BACK, 10 NOW, 11 bytes of the TAPE.");
        Kit kit = Kit.world();
        counts(kit, 3, 2, 0, 0, 0, 0, 0, 0, 0, 0, 0, 0);
        kit.ask("x", "");
        kit.ask("y", "");
        kit.ask("x", "");
        kit.roll(1, 2, 3, 4, 5, 6);
        counts(kit, 3, 2, 6, 3, 3, 0, 0, 0, 0, 0, 0, 0);
        kit.consent(0, 5, 3, true);
        counts(kit, 3, 2, 5, 3, 2, 1, 0, 0, 0, 0, 0, 0);
        kit.consent(1, 5, 3, false);
        counts(kit, 3, 2, 5, 3, 1, 1, 0, 0, 0, 0, 0, 0);
        kit.redeem(1);
        counts(kit, 3, 2, 3, 3, 1, 1, 1, 1, 1, 0, 0, 0);
        kit.turn(3, "");
        counts(kit, 3, 2, 1, 3, 1, 1, 1, 2, 2, 0, 0, 0);
        kit.turn(3, "");
        counts(kit, 3, 2, 1, 3, 1, 1, 1, 2, 2, 1, 0, 0);
        kit.tick(70000);
        kit.feed(0, 0, 0, 0, 0);
        counts(kit, 3, 2, 1, 3, 1, 1, 1, 2, 2, 1, 70000, 20);
        kit.end(19);
        counts(kit, 3, 2, 1, 3, 1, 1, 1, 2, 2, 1, 70000, 19);
        Kit other = Kit.world();
        other.give("y", 1, 1, 1);
        other.roll(2);
        other.token("grant_type=authorization_code&client_id=y&client_secret=s&redirect_uri=u:v&code_verifier="
            + Kit.VERIFIER + "&code=" + Kit.handle(1));
        counts(other, 3, 2, 0, 1, 0, 1, 1, 1, 0, 0, 0, 0);
        other.tick(600);
        other.revoke("client_id=y&client_secret=s&token=" + Kit.handle(2));
        counts(other, 3, 2, 0, 1, 0, 1, 1, 1, 0, 0, 600, 0);
    }

    private static void countOfAnother() {
        Doc.says("NONE for another what.");
        int[] others = {-1, -2, 12, 13, 100, LOWEST, HIGHEST};
        Kit kit = Kit.world();
        kit.start(1, 3, 5);
        for (int what : others) {
            Kit.due("count(" + what + ")", Kit.NONE, kit.count(what));
        }
    }
}
