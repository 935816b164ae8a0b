import java.util.List;
import java.util.Random;
import java.util.function.IntSupplier;

/** Runs of calls that are drawn (always the same ones), each call answered by the class and by the Model alike. */
public final class ModelTest {
    private static final int RUNS = 1500;
    private static final int CALLS = 512;
    private static final String[] SCOPE_WORDS = {"r", "w", "read", "write:all", "123456789012", "a%b", "z"};
    private static final String[] IDS = {"x", "y", "web", "abcdefghijklmnopqrst", "a&b"};
    private static final String[] SECRETS = {"s", "t", "secret+1"};
    private static final String[] REDIRECTS = {"u:v", "https://a.b/cb", "https://a.b/cb?x=1", "q"};
    private static final int[] ODD = {-1, 0, 1, 2, 3, 7, 8, 12, 20, 60, 200, 512, 2000, 6200,
        Integer.MAX_VALUE, Integer.MIN_VALUE};

    private final Random random;
    private final int run;
    private final GrantServer real = new GrantServer();
    private final Model model = new Model();
    private int calls = 0;

    private ModelTest(int run) {
        this.run = run;
        this.random = new Random(run);
    }

    public static void main(String[] args) {
        int first = args.length > 0 ? Integer.parseInt(args[0]) : 0;
        int[] reached = new int[12];
        for (int run = first; run < first + RUNS; run++) {
            ModelTest test = new ModelTest(run);
            test.play();
            for (int what = 0; what < 12; what++) {
                reached[what] = Math.max(reached[what], test.model.count(what));
            }
        }
        // Runs that never come to tokens would say nothing.
        Kit.due("runs come to 5 FAMILIES that are TAKEN BACK", 1, reached[9] >= 5 ? 1 : 0);
        Kit.due("runs come to 10 REFRESH tokens", 1, reached[8] >= 10 ? 1 : 0);
        Kit.close();
    }

    private void play() {
        setUp();
        while (calls < CALLS) {
            step();
        }
    }

    // ---- one call of both ----

    private static String answer(IntSupplier call) {
        try {
            return Integer.toString(call.getAsInt());
        } catch (RuntimeException e) {
            return "throws." + e.getClass().getSimpleName();
        }
    }

    private void both(String what, IntSupplier ofReal, IntSupplier ofModel) {
        if (calls >= CALLS) {
            return;
        }
        calls++;
        Kit.due("run " + run + ", call " + calls + ": " + what, answer(ofModel), answer(ofReal));
    }

    private void look() {
        both("status()", real::status, () -> model.status);
        both("error()", real::error, () -> model.error);
        both("outs()", real::outs, () -> model.out.length());
    }

    private void put(String text) {
        int had = model.tape.length();
        for (int i = 0; i < text.length(); i += 20) {
            int[] n = new int[5];
            StringBuilder bytes = new StringBuilder();
            for (int k = 0; k < 5; k++) {
                n[k] = Kit.four(text, i + 4 * k);
                for (int shift = 24; shift >= 0; shift -= 8) {
                    bytes.append((char) (n[k] >> shift & 255));
                }
            }
            both("feed", () -> real.feed(n[0], n[1], n[2], n[3], n[4]), () -> model.append(bytes.toString()));
        }
        int n = had + text.length();
        both("end(" + n + ")", () -> real.end(n) ? 1 : 0, () -> model.end(n) ? 1 : 0);
    }

    // ---- what is drawn ----

    private boolean chance(int percent) {
        return random.nextInt(100) < percent;
    }

    private String one(String[] from) {
        return from[random.nextInt(from.length)];
    }

    private int odd() {
        return ODD[random.nextInt(ODD.length)];
    }

    private int small(int below) {
        return chance(5) ? odd() : random.nextInt(Math.max(1, below));
    }

    private void setUp() {
        int scopes = 1 + random.nextInt(4);
        for (int k = 0; k < scopes; k++) {
            scope();
        }
        int clients = 1 + random.nextInt(3);
        for (int k = 0; k < clients; k++) {
            client();
            redirect(model.clients.size() - 1);
        }
    }

    private void scope() {
        put(chance(10) ? "b d" : one(SCOPE_WORDS));
        both("scope()", real::scope, model::scope);
    }

    private void client() {
        boolean confidential = chance(40);
        put(confidential != chance(5) ? one(IDS) + "\0" + one(SECRETS) : one(IDS));
        int all = (1 << model.scopes.size()) - 1;
        int bits = chance(8) ? odd() : chance(70) ? all : random.nextInt(all + 1);
        boolean refresh = chance(75);
        both("client(" + confidential + ", " + bits + ", " + refresh + ")",
            () -> real.client(confidential, bits, refresh), () -> model.client(confidential, bits, refresh));
    }

    private void redirect(int client) {
        put(chance(5) ? "u#" : one(REDIRECTS));
        both("redirect(" + client + ")", () -> real.redirect(client), () -> model.redirect(client));
    }

    private void step() {
        int kind = random.nextInt(100);
        if (kind < 22) {
            authorize();
        } else if (kind < 42) {
            consent();
        } else if (kind < 62) {
            roll();
        } else if (kind < 86) {
            token();
        } else if (kind < 90) {
            revoke();
        } else if (kind < 95) {
            check();
        } else {
            rare();
        }
        if (chance(30)) {
            look();
        }
        if (chance(15)) {
            peek();
        }
    }

    private void peek() {
        int i = small(model.out.length() + 1);
        int what = chance(5) ? odd() : random.nextInt(13) - 1;
        int k = small(Math.max(model.codes.size(), 1));
        both("out(" + i + ")", () -> real.out(i), () -> model.out(i));
        both("count(" + what + ")", () -> real.count(what), () -> model.count(what));
        both("code(" + k + ", " + what + ")", () -> real.code(k, what), () -> model.code(k, what));
        both("family(" + k + ", " + what + ")", () -> real.family(k, what), () -> model.family(k, what));
    }

    private void rare() {
        switch (random.nextInt(8)) {
            case 0: scope(); break;
            case 1: client(); break;
            case 2: redirect(small(model.clients.size())); break;
            case 3: lives(); break;
            case 4: tick(chance(10) ? odd() : random.nextInt(700)); break;
            case 5: again(); break;
            case 6: end(); break;
            default: tick(random.nextInt(30));
        }
    }

    private void lives() {
        int a = chance(10) ? odd() : 1 + random.nextInt(100);
        int b = chance(10) ? odd() : 1 + random.nextInt(1000);
        int c = chance(10) ? odd() : 1 + random.nextInt(1000);
        both("lives(" + a + ", " + b + ", " + c + ")", () -> {
            real.lives(a, b, c);
            return 0;
        }, () -> {
            model.lives(a, b, c);
            return 0;
        });
    }

    private void tick(int n) {
        both("tick(" + n + ")", () -> real.tick(n), () -> model.tick(n));
    }

    private void again() {
        int from = small(model.out.length() + 1);
        int many = small(model.out.length() + 1);
        both("again(" + from + ", " + many + ")", () -> real.again(from, many), () -> model.again(from, many));
    }

    private void end() {
        int n = small(model.tape.length() + 2);
        both("end(" + n + ")", () -> real.end(n) ? 1 : 0, () -> model.end(n) ? 1 : 0);
    }

    private void roll() {
        int many = 1 + random.nextInt(4);
        for (int i = 0; i < many; i++) {
            int a = chance(90) ? 0 : -1;
            int d = random.nextInt(120);
            both("dice(" + a + ", 0, 0, " + d + ")", () -> real.dice(a, 0, 0, d), () -> model.dice(a, 0, 0, d));
        }
    }

    // ---- FORMS ----

    private String escaped(String text) {
        StringBuilder made = new StringBuilder();
        for (char c : text.toCharArray()) {
            boolean plain = c > 32 && c < 127 && c != '%' && c != '&' && c != '+' && chance(97);
            made.append(plain ? String.valueOf(c) : String.format(chance(50) ? "%%%02x" : "%%%02X", (int) c));
        }
        return made.toString();
    }

    /** A PIECE, mostly as it should be. */
    private String piece(String name, String value) {
        int kind = random.nextInt(160);
        switch (kind) {
            case 0: return "";
            case 1: return name + "=&";
            case 2: return name + "=" + escaped(value) + "x&";
            case 3: return name + "=" + escaped(value) + "&" + name + "&";
            case 4: return name + "=%" + value + "&";
            case 5: return name + "= &";
            case 6: return "a=b&&" + name + "=" + escaped(value) + "&c&=&";
            default: return escaped(name) + "=" + escaped(value) + "&";
        }
    }

    private Model.Client someClient() {
        return model.clients.isEmpty() ? null : model.clients.get(random.nextInt(model.clients.size()));
    }

    private String scopePiece() {
        StringBuilder value = new StringBuilder();
        int words = random.nextInt(4);
        for (int i = 0; i < words; i++) {
            boolean known = !model.scopes.isEmpty() && chance(96);
            value.append(known ? escaped(model.scopes.get(random.nextInt(model.scopes.size()))) : "zz").append("+");
        }
        return "scope=" + value + "&";
    }

    private void authorize() {
        Model.Client client = someClient();
        StringBuilder form = new StringBuilder(piece("client_id", client == null ? "x" : client.id));
        if (client != null && !client.redirects.isEmpty() && chance(60)) {
            form.append(piece("redirect_uri", client.redirects.get(random.nextInt(client.redirects.size()))));
        }
        form.append(piece("response_type", chance(97) ? "code" : "token"));
        form.append(piece("code_challenge", Kit.CHALLENGE)).append(piece("code_challenge_method", "S256"));
        form.append(chance(30) ? scopePiece() : "").append(chance(30) ? piece("state", "a b/\u00e9~") : "");
        put(form.toString());
        both("authorize() of " + form, real::authorize, model::authorize);
    }

    private void consent() {
        int k = small(model.requests.size());
        for (int i = 0; i < model.requests.size() && chance(90); i++) {
            k = model.requests.get(k < 0 || k >= model.requests.size() ? 0 : k).open ? k : i;
        }
        int all = k >= 0 && k < model.requests.size() ? model.requests.get(k).scopes : 1;
        int bits = chance(5) ? odd() : chance(60) ? all : all & random.nextInt(256);
        int owner = random.nextInt(1000) - 100;
        boolean yes = chance(92);
        int request = k;
        both("consent(" + request + ", " + owner + ", " + bits + ", " + yes + ")",
            () -> real.consent(request, owner, bits, yes), () -> model.consent(request, owner, bits, yes));
    }

    private String who(Model.Client client) {
        String id = client == null ? "x" : client.id;
        String secret = client == null || client.secret == null ? "" : piece("client_secret", client.secret);
        return piece("client_id", id) + secret + (chance(2) ? "client_secret=s&" : "");
    }

    private void token() {
        String form = model.refresh.isEmpty() || chance(60) ? redeemForm() : turnForm();
        put(form);
        both("token() of " + form, real::token, model::token);
    }

    private String redeemForm() {
        Model.Code code = model.codes.isEmpty() ? null : model.codes.get(random.nextInt(model.codes.size()));
        for (Model.Code each : model.codes) {
            code = code.family < 0 || chance(30) ? code : each;
        }
        boolean own = code != null && chance(96);
        Model.Client client = own ? model.clients.get(code.of.client) : someClient();
        return piece("grant_type", chance(98) ? "authorization_code" : "password") + who(client)
            + piece("redirect_uri", code == null ? "u:v" : code.of.redirect)
            + piece("code_verifier", chance(97) ? Kit.VERIFIER : Kit.CHALLENGE)
            + piece("code", code == null ? "none" : code.handle);
    }

    private String turnForm() {
        Model.Token token = chance(60) ? model.refresh.get(model.refresh.size() - 1) : any(model.refresh);
        Model.Client client = chance(96) ? model.clients.get(model.families.get(token.family).client) : someClient();
        return piece("grant_type", "refresh_token") + who(client) + (chance(30) ? scopePiece() : "")
            + piece("refresh_token", token.handle);
    }

    private Model.Token any(List<Model.Token> tokens) {
        return tokens.get(random.nextInt(tokens.size()));
    }

    private String someHandle() {
        if (!model.refresh.isEmpty() && chance(30)) {
            return any(model.refresh).handle;
        }
        if (!model.access.isEmpty() && chance(90)) {
            return any(model.access).handle;
        }
        return model.codes.isEmpty() ? "none" : model.codes.get(0).handle;
    }

    private void revoke() {
        String form = who(someClient()) + piece("token", someHandle());
        put(form);
        both("revoke() of " + form, real::revoke, model::revoke);
    }

    private void check() {
        int scope = small(model.scopes.size());
        put(someHandle());
        both("check(" + scope + ")", () -> real.check(scope), () -> model.check(scope));
    }
}
