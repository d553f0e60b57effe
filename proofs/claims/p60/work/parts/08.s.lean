/-! ===== links between nest mates: no words that are good anywhere; the statics carry them ===== -/
def nestW : List Cond := [.methodLinkNest RX11 15 yX5_init "PastryBench", .methodLinkNest RX5 11 yX10_init "PastryBench", .methodLinkNest RX11 22 yX7_init "PastryBench", .methodLinkNest RX1 17 yX8_init "PastryBench", .methodLinkNest RX11 53 yX4_init "PastryBench", .methodLinkNest RX8 78 yX11_cooledByFridge "PastryBench", .methodLinkNest RX8 81 yX11_drawnToRoom "PastryBench", .methodLinkNest RX8 50 yX11_layersFolded "PastryBench", .methodLinkNest RX1 91 yX11_isFactor "PastryBench", .methodLinkNest RX8 58 yX11_warmedByWork "PastryBench"]
def x_nw (G : xG) (w : Cond) : Prop := ∀ s : State, G.2.2.1 (x_A G) s s.heap → va_Nw w s
/-- the statics carry the links between nest mates -/
def GD (G : xG) : Prop := ∀ w ∈ nestW, x_nw G w
theorem gn_X11_15 {G : xG} (hG : GD G) : ∀ s : State, G.2.2.1 (x_A G) s s.heap → va_Nw (.methodLinkNest RX11 15 yX5_init "PastryBench") s := hG _ (List.mem_of_getElem? (i := 0) rfl)
theorem gn_X5_11 {G : xG} (hG : GD G) : ∀ s : State, G.2.2.1 (x_A G) s s.heap → va_Nw (.methodLinkNest RX5 11 yX10_init "PastryBench") s := hG _ (List.mem_of_getElem? (i := 1) rfl)
theorem gn_X11_22 {G : xG} (hG : GD G) : ∀ s : State, G.2.2.1 (x_A G) s s.heap → va_Nw (.methodLinkNest RX11 22 yX7_init "PastryBench") s := hG _ (List.mem_of_getElem? (i := 2) rfl)
theorem gn_X1_17 {G : xG} (hG : GD G) : ∀ s : State, G.2.2.1 (x_A G) s s.heap → va_Nw (.methodLinkNest RX1 17 yX8_init "PastryBench") s := hG _ (List.mem_of_getElem? (i := 3) rfl)
theorem gn_X11_53 {G : xG} (hG : GD G) : ∀ s : State, G.2.2.1 (x_A G) s s.heap → va_Nw (.methodLinkNest RX11 53 yX4_init "PastryBench") s := hG _ (List.mem_of_getElem? (i := 4) rfl)
theorem gn_X8_78 {G : xG} (hG : GD G) : ∀ s : State, G.2.2.1 (x_A G) s s.heap → va_Nw (.methodLinkNest RX8 78 yX11_cooledByFridge "PastryBench") s := hG _ (List.mem_of_getElem? (i := 5) rfl)
theorem gn_X8_81 {G : xG} (hG : GD G) : ∀ s : State, G.2.2.1 (x_A G) s s.heap → va_Nw (.methodLinkNest RX8 81 yX11_drawnToRoom "PastryBench") s := hG _ (List.mem_of_getElem? (i := 6) rfl)
theorem gn_X8_50 {G : xG} (hG : GD G) : ∀ s : State, G.2.2.1 (x_A G) s s.heap → va_Nw (.methodLinkNest RX8 50 yX11_layersFolded "PastryBench") s := hG _ (List.mem_of_getElem? (i := 7) rfl)
theorem gn_X1_91 {G : xG} (hG : GD G) : ∀ s : State, G.2.2.1 (x_A G) s s.heap → va_Nw (.methodLinkNest RX1 91 yX11_isFactor "PastryBench") s := hG _ (List.mem_of_getElem? (i := 8) rfl)
theorem gn_X8_58 {G : xG} (hG : GD G) : ∀ s : State, G.2.2.1 (x_A G) s s.heap → va_Nw (.methodLinkNest RX8 58 yX11_warmedByWork "PastryBench") s := hG _ (List.mem_of_getElem? (i := 9) rfl)
