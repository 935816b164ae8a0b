/** The edges that the sentences of Terms 2 name: authorize(), LOCATION, consent(). */
final class EdgesOfAuthorize {
    private static final String SHORT = Kit.CHALLENGE.substring(1);

    static void run() {
        refused();
        refusedInOrder();
        whichRedirect();
        responseType();
        challengeLength();
        challengeSigns();
        challengeMethod();
        scopeThatItMayNot();
        noScope();
        sentInOrder();
        requests();
        scopesOfRequest();
        location();
        locationState();
        locationBytes();
        locationWords();
        no();
        yes();
    }

    /** A world whose OUT is not empty. */
    private static Kit withOut() {
        Kit kit = Kit.world();
        kit.token("");
        return kit;
    }

    private static void refuses(Kit kit, String form, int error) {
        Kit.due("authorize() of '" + form + "'", Kit.NONE, kit.authorize(form));
        kit.answered("authorize() of '" + form + "'", 400, error, 0);
        Kit.due("REQUESTS", 0, kit.count(3));
    }

    private static void sends(Kit kit, String form, int error, String out) {
        Kit.due("authorize() of '" + form + "'", Kit.NONE, kit.authorize(form));
        kit.answered("authorize() of '" + form + "'", 302, error, out);
    }

    private static void refused() {
        Doc.says("authorize() reads a FORM. The first of these that holds: BAD, no client_id, none that is a CLIENT's, "
            + "a redirect_uri that is none of its REDIRECTS, none though it has not just one: status 400, "
            + "error 1 (6 of a client_id that is no CLIENT's or is not there), an empty OUT.");
        String rest = "&response_type=code" + Kit.S256;
        refuses(withOut(), "client_id=x%" + rest, 1);
        refuses(withOut(), "", 6);
        refuses(withOut(), rest, 6);
        String[] noOnes = {"", "z", "X", "xx", "x+", "+x", "x%00", "xy", "%00", "s"};
        for (String id : noOnes) {
            refuses(withOut(), "client_id=" + id + rest, 6);
        }
        String[] others = {"u", "u:", "u:vv", "u:V", "u:v+", "+u:v", "u:w", ":v", "u:v/", "u:v%00"};
        for (String uri : others) {
            refuses(withOut(), "client_id=x&redirect_uri=" + uri + rest, 1);
        }
        Kit kit = withOut();
        kit.client("none", null, 1, true);
        refuses(kit, "client_id=none" + rest, 1);
        refuses(kit, "client_id=none&redirect_uri=u:v" + rest, 1);
        kit.redirect(2, "q");
        Kit.due("with just one", 0, kit.authorize("client_id=none" + rest));
        Kit two = withOut();
        two.redirect(0, "q");
        refuses(two, "client_id=x" + rest, 1);
        two.redirect(0, "p");
        refuses(two, "client_id=x" + rest, 1);
        Kit.due("a redirect_uri, with three", 0, two.authorize("client_id=x&redirect_uri=p" + rest));
        Kit.due("another CLIENT has still just one", 1, two.authorize("client_id=y" + rest));
    }

    private static void refusedInOrder() {
        Doc.says("authorize() reads a FORM. The first of these that holds: BAD, no client_id, none that is a CLIENT's, "
            + "a redirect_uri that is none of its REDIRECTS, none though it has not just one: status 400, "
            + "error 1 (6 of a client_id that is no CLIENT's or is not there), an empty OUT.");
        String[] bads = {"&a=%", "&a&a".repeat(10), "&state=1&state=1", "& "};
        String[] ids = {"", "&client_id=", "&client_id=z", "&client_id=x", "&client_id=two"};
        String[] uris = {"", "&redirect_uri=", "&redirect_uri=other", "&redirect_uri=u:v"};
        for (int bad = 0; bad <= bads.length; bad++) {
            for (int id = 0; id < ids.length; id++) {
                for (int uri = 0; uri < uris.length; uri++) {
                    Kit kit = withOut();
                    kit.client("two", null, 3, true);
                    kit.redirect(2, "p");
                    kit.redirect(2, "q");
                    String form = "b" + ids[id] + uris[uri] + (bad < bads.length ? bads[bad] : "");
                    boolean redirect = id == 3 && uri != 2;
                    if (bad < bads.length || id >= 3 && !redirect) {
                        refuses(kit, form, 1);
                    } else if (id < 3) {
                        refuses(kit, form, 6);
                    } else {
                        sends(kit, form, 1, "u:v?error=invalid_request");
                    }
                }
            }
        }
    }

    private static void whichRedirect() {
        Doc.says("Else the REDIRECT is that one (or its only one), and, of these the first:");
        Kit kit = new Kit();
        kit.client("c", null, 0, true);
        kit.redirect(0, "one");
        sends(kit, "client_id=c", 1, "one?error=invalid_request");
        sends(kit, "client_id=c&redirect_uri=one", 1, "one?error=invalid_request");
        kit.redirect(0, "two");
        kit.redirect(0, "three");
        sends(kit, "client_id=c&redirect_uri=one", 1, "one?error=invalid_request");
        sends(kit, "client_id=c&redirect_uri=two", 1, "two?error=invalid_request");
        sends(kit, "client_id=c&redirect_uri=three", 1, "three?error=invalid_request");
    }

    private static void responseType() {
        Doc.says("no response_type: error 1; one that is not code: 4;");
        sends(Kit.world(), "client_id=x" + Kit.S256, 1, "u:v?error=invalid_request");
        String[] others = {"cod", "codes", "Code", "CODE", "+code", "code+", "token", "code%00", "c", "x"};
        for (String other : others) {
            sends(Kit.world(), "client_id=x&response_type=" + other + Kit.S256, 4, "u:v?error=unsupported_response_type");
        }
        Kit.due("code", 0, Kit.world().authorize("client_id=x&response_type=%63ode" + Kit.S256));
    }

    private static void challenge(String challenge, boolean good) {
        Kit kit = Kit.world();
        int answer = kit.authorize("client_id=x&response_type=code&code_challenge_method=S256&code_challenge=" + challenge);
        Kit.due("a code_challenge of '" + challenge + "'", good ? 0 : Kit.NONE, answer);
        kit.answered("a code_challenge of '" + challenge + "'", good ? 200 : 302, good ? 0 : 1, good ? 0 : 25);
    }

    private static void challengeLength() {
        Doc.says("no code_challenge, one that has not 43 signs of base64url, "
            + "a code_challenge_method that is not S256 (or none): 1;");
        Kit kit = Kit.world();
        sends(kit, "client_id=x&response_type=code&code_challenge_method=S256", 1, "u:v?error=invalid_request");
        for (int size = 0; size <= 130; size++) {
            challenge("c".repeat(size), size == 43);
        }
    }

    private static void challengeSigns() {
        Doc.says("no code_challenge, one that has not 43 signs of base64url, "
            + "a code_challenge_method that is not S256 (or none): 1;");
        for (int b = 0; b < 256; b++) {
            String hex = String.format("%%%02x", b);
            boolean sign = EdgesOfForms.sign(b).matches("[A-Za-z0-9_-]");
            challenge(hex + SHORT, sign);
            challenge(SHORT + hex, sign);
            challenge(SHORT.substring(0, 21) + hex + SHORT.substring(21), sign);
        }
    }

    private static void challengeMethod() {
        Doc.says("no code_challenge, one that has not 43 signs of base64url, "
            + "a code_challenge_method that is not S256 (or none): 1;");
        String start = "client_id=x&response_type=code&code_challenge=" + Kit.CHALLENGE;
        sends(Kit.world(), start, 1, "u:v?error=invalid_request");
        String[] others = {"", "plain", "S25", "S2566", "s256", "S256+", "+S256", "S512", "S257", "T256"};
        for (String other : others) {
            sends(Kit.world(), start + "&code_challenge_method=" + other, 1, "u:v?error=invalid_request");
        }
        Kit.due("S256", 0, Kit.world().authorize(start + "&code_challenge_method=S256"));
    }

    private static void scopeThatItMayNot() {
        Doc.says("a scope with an unknown WORD, or one that the CLIENT may not ask for: 5;");
        String[] no = {"z", "r+z", "a", "r+w+a", "a+r", "+a", "a+z"};
        for (String scope : no) {
            Kit kit = Kit.world();
            Kit.due("x with scope=" + scope, Kit.NONE, kit.ask("x", "&scope=" + scope));
            kit.answered("x with scope=" + scope, 302, 5, "u:v?error=invalid_scope");
        }
        Kit kit = Kit.world();
        Kit.due("all that it may ask for", 0, kit.ask("x", "&scope=r+w"));
        Kit.due("another CLIENT may", 1, kit.ask("y", "&scope=r+w+a"));
        Kit.due("blanks alone", 2, kit.ask("x", "&scope=+"));
        kit.scope("new");
        Kit.due("a SCOPE that came behind the CLIENT", Kit.NONE, kit.ask("y", "&scope=new"));
        Kit.due("its error", 5, kit.error());
    }

    private static void noScope() {
        Doc.says("no scope, if the CLIENT may ask for none: 5:");
        Kit kit = Kit.world();
        kit.client("none", null, 0, true);
        kit.redirect(2, "n");
        kit.client("one", null, 1, true);
        kit.redirect(3, "o");
        Kit.due("it may ask for none", Kit.NONE, kit.ask("none", ""));
        kit.answered("it may ask for none", 302, 5, "n?error=invalid_scope");
        Kit.due("it may ask for none, an empty scope", Kit.NONE, kit.ask("none", "&scope="));
        kit.answered("it may ask for none, an empty scope", 302, 5, "n?error=invalid_scope");
        Kit.due("it may ask for one", 0, kit.ask("one", ""));
        kit.answered("it may ask for one", 200, 0, 0);
        Kit.due("it may ask for none, blanks alone", 1, kit.ask("none", "&scope=+"));
        kit.answered("it may ask for none, blanks alone", 200, 0, 0);
    }

    /** All that can be wrong behind the REDIRECT, with all else that can be: the error is that of the first. */
    private static void sentInOrder() {
        Doc.says("status 302, OUT is the LOCATION with error.");
        String[] types = {"", "&response_type=token", "&response_type=code"};
        String[] challenges = {"", "&code_challenge=" + SHORT, "&code_challenge=" + Kit.CHALLENGE};
        String[] methods = {"", "&code_challenge_method=plain", "&code_challenge_method=S256"};
        String[] scopes = {"&scope=z", "&scope=a", "&scope=r", ""};
        String[] words = {"", "invalid_request", "", "", "unsupported_response_type", "invalid_scope"};
        for (int type = 0; type < 3; type++) {
            for (int challenge = 0; challenge < 3; challenge++) {
                for (int method = 0; method < 3; method++) {
                    for (int scope = 0; scope < 4; scope++) {
                        String form = "client_id=x" + scopes[scope] + methods[method] + challenges[challenge] + types[type];
                        int last = challenge < 2 || method < 2 ? 1 : scope < 2 ? 5 : 0;
                        int error = type == 0 ? 1 : type == 1 ? 4 : last;
                        Kit kit = withOut();
                        Kit.due("authorize() of " + form, error == 0 ? 0 : Kit.NONE, kit.authorize(form));
                        kit.answered("authorize() of " + form, error == 0 ? 200 : 302, error,
                            error == 0 ? "" : "u:v?error=" + words[error]);
                        Kit.due("REQUESTS", error == 0 ? 1 : 0, kit.count(3));
                    }
                }
            }
        }
    }

    private static void requests() {
        Doc.says("Else a REQUEST comes, numbered from 0 on (at most 200; error 11 beyond, status 302), that is open: "
            + "status 200, an empty OUT.");
        Kit kit = withOut();
        for (int k = 0; k < 20; k++) {
            Kit.due("REQUEST " + k, k, kit.ask(k % 2 == 0 ? "x" : "y", "&state=s"));
            kit.answered("REQUEST " + k, 200, 0, 0);
            Kit.due("REQUESTS", k + 1, kit.count(3));
            Kit.due("open ones", k + 1, kit.count(4));
            kit.authorize("client_id=x");
        }
        Kit.due("errors are no REQUESTS", 20, kit.count(3));
    }

    private static void scopesOfRequest() {
        Doc.says("Its SCOPES are those told, without scope all that the CLIENT may ask for.");
        String[] told = {"", "&scope=", "&scope=r", "&scope=w", "&scope=a", "&scope=r+a", "&scope=r+w+a", "&scope=+"};
        int[] bits = {7, 7, 1, 2, 4, 5, 7, 0};
        for (int i = 0; i < told.length; i++) {
            for (int yes = 1; yes < 16; yes++) {
                Kit kit = Kit.world();
                kit.ask("y", told[i]);
                kit.roll(1);
                int set = yes;
                boolean has = (set & ~bits[i]) == 0;
                Kit.due("yes to " + set + told[i], has ? Kit.NO : Kit.ILLEGAL, Kit.thrown(() -> kit.consent(0, 1, set, true)));
                Kit.due("CODES", has ? 1 : 0, kit.count(5));
            }
        }
    }

    private static void location() {
        Doc.says("LOCATION: the REDIRECT, then ? (& if it has a ?), then what is told, = and its VALUE, "
            + "then, if there was a state, &state= and it;");
        String[] redirects = {"a", "a?", "?", "?a", "a?b=c", "a?b?c", "a%3F", "a&b", "a/", "~!\"$%&'()*+,-./:;<=>@[\\]^_`{|}"};
        for (String redirect : redirects) {
            Kit kit = Kit.world();
            kit.client("c", null, 1, true);
            kit.redirect(2, redirect);
            String start = redirect + (redirect.contains("?") ? "&" : "?");
            kit.authorize("client_id=c");
            kit.answered("LOCATION of " + redirect, 302, 1, start + "error=invalid_request");
            kit.authorize("client_id=c&state=s");
            kit.answered("LOCATION of " + redirect, 302, 1, start + "error=invalid_request&state=s");
            kit.ask("c", "&state=s");
            kit.roll(1);
            kit.consent(0, 1, 1, true);
            kit.answered("LOCATION of " + redirect, 302, 0, start + "code=" + Kit.handle(1) + "&state=s");
        }
    }

    private static void locationState() {
        Doc.says("LOCATION: the REDIRECT, then ? (& if it has a ?), then what is told, = and its VALUE, "
            + "then, if there was a state, &state= and it;");
        String[] states = {"", "&state", "&state=", "&state=0", "&state=s%20t"};
        String[] ends = {"", "", "", "&state=0", "&state=s%20t"};
        for (int i = 0; i < states.length; i++) {
            Kit kit = Kit.world();
            kit.authorize("client_id=x" + states[i]);
            kit.answered("with '" + states[i] + "'", 302, 1, "u:v?error=invalid_request" + ends[i]);
            kit.ask("x", states[i]);
            kit.ask("x", states[i]);
            kit.ask("x", "&state=other");
            kit.roll(1);
            kit.consent(0, 1, 1, false);
            kit.answered("no, with '" + states[i] + "'", 302, 3, "u:v?error=access_denied" + ends[i]);
            kit.consent(1, 1, 1, true);
            kit.answered("yes, with '" + states[i] + "'", 302, 0, "u:v?code=" + Kit.handle(1) + ends[i]);
        }
        Kit longest = new Kit();
        longest.client("x", null, 0, true);
        longest.redirect(0, "r".repeat(80));
        longest.authorize("client_id=x&response_type=0&state=" + "!".repeat(1965) + "z");
        longest.answered("the longest LOCATION", 302, 4, 80 + 1 + 31 + 7 + 3 * 1965 + 1);
        Kit.due("its last byte but one", '1', longest.out(longest.outs() - 2));
        Kit.due("its last byte", 'z', longest.out(longest.outs() - 1));
    }

    private static void locationBytes() {
        Doc.says("VALUES with all bytes but letters, digits and - . _ ~ as % and two of 0 to 9, A to F.");
        for (int from = 0; from < 256; from += 32) {
            StringBuilder state = new StringBuilder();
            StringBuilder escaped = new StringBuilder();
            for (int b = from; b < from + 32; b++) {
                state.append(String.format("%%%02x", b));
                escaped.append(EdgesOfForms.escaped(b));
            }
            Kit kit = Kit.world();
            kit.authorize("client_id=x&state=" + state);
            kit.answered("a state of " + from + " on", 302, 1, "u:v?error=invalid_request&state=" + escaped);
            Kit no = Kit.world();
            no.ask("x", "&state=" + state);
            no.consent(0, 1, 1, false);
            no.answered("no, a state of " + from + " on", 302, 3, "u:v?error=access_denied&state=" + escaped);
        }
    }

    private static void locationWords() {
        Doc.says("With error: error= and the error's WORD.");
        Kit kit = Kit.world();
        sends(kit, "client_id=x", 1, "u:v?error=invalid_request");
        sends(kit, "client_id=x&response_type=x", 4, "u:v?error=unsupported_response_type");
        sends(kit, "client_id=x&response_type=code&scope=z" + Kit.S256, 5, "u:v?error=invalid_scope");
        kit.ask("x", "");
        kit.consent(0, 1, 1, false);
        kit.answered("no", 302, 3, "u:v?error=access_denied");
    }

    private static void no() {
        Doc.says("consent(): the owner of an open REQUEST (which is not open then) says no: "
            + "status 302, error 3, LOCATION with error;");
        int[] anyScopes = {0, 1, 3, 4, 8, -1, Integer.MIN_VALUE, Integer.MAX_VALUE};
        for (int scopes : anyScopes) {
            Kit kit = Kit.world();
            kit.ask("x", "&state=s");
            kit.ask("x", "");
            kit.roll(1);
            Kit.due("no to " + scopes, Kit.NONE, kit.consent(0, 7, scopes, false));
            kit.answered("no to " + scopes, 302, 3, "u:v?error=access_denied&state=s");
            Kit.due("REQUESTS", 2, kit.count(3));
            Kit.due("open ones", 1, kit.count(4));
            Kit.due("CODES", 0, kit.count(5));
            Kit.due("DICE that wait", 1, kit.count(2));
            Kit.due("no once more", Kit.NO_SUCH, Kit.thrown(() -> kit.consent(0, 7, scopes, false)));
            Kit.due("yes then", Kit.NO_SUCH, Kit.thrown(() -> kit.consent(0, 7, 1, true)));
            Kit.due("yes to the other", 0, kit.consent(1, 7, 1, true));
        }
    }

    private static void yes() {
        Doc.says("or yes to some SCOPES of it: a CODE comes: status 302, error 0, "
            + "OUT is the LOCATION with code= and its HANDLE.");
        for (int some = 1; some <= 7; some++) {
            Kit kit = Kit.world();
            kit.ask("y", "");
            kit.ask("y", "&state=s");
            kit.roll(1, 2);
            Kit.due("yes to " + some, 0, kit.consent(1, 7, some, true));
            kit.answered("yes to " + some, 302, 0, "u:v?code=" + Kit.handle(1) + "&state=s");
            Kit.due("its SCOPES", some, kit.code(0, 3));
            Kit.due("open ones", 1, kit.count(4));
            int set = some;
            Kit.due("yes once more", Kit.NO_SUCH, Kit.thrown(() -> kit.consent(1, 7, set, true)));
            Kit.due("no then", Kit.NO_SUCH, Kit.thrown(() -> kit.consent(1, 7, set, false)));
            Kit.due("yes to the other", 1, kit.consent(0, 7, some, true));
            kit.answered("yes to the other", 302, 0, "u:v?code=" + Kit.handle(2));
        }
    }
}
