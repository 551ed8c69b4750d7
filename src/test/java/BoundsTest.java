/** Every sentence of the document that names a bound, with what holds on both its sides; README.md tells where. */
public final class BoundsTest {
    public static void main(String[] args) {
        TermBounds.test();
        TextBounds.test();
        PlayBounds.test();
        EffectBounds.test();
        CellBounds.test();
        ContainerBounds.test();
        CallBounds.test();
        Document.rest();
        Check.finish();
    }
}
