/**
 * The limits that no run of 512 calls comes to: of 200 REQUESTS and CODES, 300 ACCESS and REFRESH tokens.
 *
 * A REQUEST takes three calls at least: authorize() empties TAPE and OUT, and its FORM of some 116 bytes comes back by
 * six feed() or by one call that fills OUT and one again(). An ACCESS token takes four at least. What calls beyond the
 * 512th answer is free; these tests hold the class to the same sentences there.
 */
final class EdgesFarOn {
    static void run() {
        requests();
        codes();
        tokens(true);
        tokens(false);
    }

    private static void requests() {
        Doc.says("Else a REQUEST comes, numbered from 0 on (at most 200; error 11 beyond, status 302), that is open: "
            + "status 200, an empty OUT.");
        Kit kit = Kit.world().farOn();
        for (int k = 0; k < 200; k++) {
            Kit.due("REQUEST " + k, k, kit.ask("x", ""));
        }
        Kit.due("a 201st", Kit.NONE, kit.ask("x", "&state=s"));
        kit.answered("a 201st", 302, 11, "u:v?error=temporarily_unavailable&state=s");
        Kit.due("REQUESTS", 200, kit.count(3));
        Kit.due("an unknown scope goes ahead", Kit.NONE, kit.ask("x", "&scope=z"));
        kit.answered("an unknown scope goes ahead", 302, 5, "u:v?error=invalid_scope");
        kit.consent(0, 1, 1, false);
        Kit.due("one that is not open still counts", Kit.NONE, kit.ask("x", ""));
        kit.answered("one that is not open still counts", 302, 11, "u:v?error=temporarily_unavailable");
    }

    private static void codes() {
        Doc.says("IllegalStateException: yes, and there is no HANDLE, or there are 200 CODES.");
        Kit kit = Kit.world().farOn();
        for (int k = 0; k < 200; k++) {
            Kit.due("CODE " + k, k, kit.give("x", 1, k, k));
        }
        kit.roll(200);
        Kit.due("200 CODES are of all 200 REQUESTS", 0, kit.count(4));
        Kit.due("there is no 201st to consent to", Kit.NO_SUCH, Kit.thrown(() -> kit.consent(200, 1, 1, true)));
        Kit.due("the owner of the last", 199, kit.code(199, 2));
        Kit.due("code(200, 0)", Kit.NO_SUCH, Kit.thrown(() -> kit.code(200, 0)));
    }

    /** 150 CODES are redeemed and turned: then there are 300 of each; the last one is redeemed, or not turned. */
    private static void tokens(boolean redeeming) {
        Doc.says("(There may be 300 ACCESS tokens and 300 REFRESH tokens; where more would come: error 11, status 503, "
            + "as of too few HANDLES.)");
        Kit kit = Kit.world().farOn();
        for (int k = 0; k < 149; k++) {
            kit.start(10 * k, 3, 5);
            kit.roll(10 * k + 3, 10 * k + 4);
            Kit.due("turn " + k, 200, kit.turn(10 * k + 2, ""));
        }
        kit.start(1490, 3, 5);
        kit.give("x", 3, 5, 3000);
        kit.give("y", 3, 5, 3010);
        Kit.due("ACCESS tokens", 299, kit.count(7));
        Kit.due("REFRESH tokens", 299, kit.count(8));
        kit.roll(4000, 4001, 4002, 4003);
        Kit.due("the 300th", 200, redeeming ? kit.redeem(3000) : kit.turn(1492, ""));
        Kit.due("ACCESS tokens", 300, kit.count(7));
        Kit.due("REFRESH tokens", 300, kit.count(8));
        String before = kit.count(6) + " " + kit.family(149, 5);
        Kit.due("a 301st by turning", 503, redeeming ? kit.turn(1492, "") : kit.turn(4001, ""));
        kit.refused("a 301st by turning", 503, 11, "temporarily_unavailable");
        Kit.due("a 301st of y, which may not REFRESH", 503, kit.token("grant_type=authorization_code&client_id=y"
            + "&client_secret=s&redirect_uri=u:v&code_verifier=" + Kit.VERIFIER + "&code=" + Kit.handle(3010)));
        kit.refused("a 301st of y", 503, 11, "temporarily_unavailable");
        if (!redeeming) {
            Kit.due("a 301st by redeeming", 503, kit.redeem(3000));
        }
        Kit.due("DICE that wait", 2, kit.count(2));
        Kit.due("y's CODE can be redeemed still", 0, kit.code(151, 0));
        Kit.due("FAMILIES, and how often the last TURNED", before, kit.count(6) + " " + kit.family(149, 5));
        Kit.due("ACCESS tokens", 300, kit.count(7));
    }
}
