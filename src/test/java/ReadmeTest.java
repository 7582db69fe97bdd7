/** The example of README.md answers what its comments say. */
public final class ReadmeTest {
    public static void main(String[] args) {
        Check.sentence("README.md", "Use");
        ShareKeeper desk = new ShareKeeper();
        int shop = desk.service();
        Check.due("service", shop, 0);
        int web = desk.source(shop, 2, 100);
        Check.due("source", web, 0);
        int calm = desk.promise(shop, 3, 900, false);
        Check.due("promise", calm, 0);
        Check.due("ticks", desk.ticks(2), 2);
        Check.due("count of tick 0", desk.count(web, 0, 0, 96, 4), 0);
        Check.due("it comes again", desk.count(web, 0, 0, 96, 4), 2);
        Check.due("count of tick 1", desk.count(web, 1, 1, 99, 1), 0);
        Check.due("count of tick 2", desk.count(web, 2, 2, 80, 0), 0);
        Check.due("LEFT", desk.span(calm, 2, 0), 23);
        Check.due("LEAST", desk.span(calm, 2, 1), 5);
        Check.due("MOST", desk.span(calm, 2, 2), 25);
        int patch = desk.change(calm, 4, 10);
        Check.due("change", patch, 0);
        Check.due("let", desk.let(patch), true);
        Check.due("settle", desk.settle(patch, 3), true);
        Check.finish();
    }
}
