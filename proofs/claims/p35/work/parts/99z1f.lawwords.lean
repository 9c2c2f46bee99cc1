/-! ===== the words of the law, 4 ===== -/
set_option maxRecDepth 20000 in
theorem wl_wsX70 : ∀ w ∈ wsX70, w ∈ gBig := wl_mem [232, 234, 236, 238, 240, 242, 244] (by decide +kernel)
set_option maxRecDepth 20000 in
theorem wl_wsX50 : ∀ w ∈ wsX50, w ∈ gBig := wl_mem [75, 77, 79, 81, 83] (by decide +kernel)
set_option maxRecDepth 20000 in
theorem wl_wsX20 : ∀ w ∈ wsX20, w ∈ gBig := wl_mem [158, 160, 162, 164, 166, 168, 170, 172, 174, 176, 178, 180, 182, 184, 186] (by decide +kernel)
set_option maxRecDepth 20000 in
theorem wl_wsX10 : ∀ w ∈ wsX10, w ∈ gBig := wl_mem [202, 204, 206] (by decide +kernel)
set_option maxRecDepth 20000 in
theorem wl_wsX40 : ∀ w ∈ wsX40, w ∈ gBig := wl_mem [220, 222] (by decide +kernel)
set_option maxRecDepth 20000 in
theorem wl_wsX00 : ∀ w ∈ wsX00, w ∈ gBig := wl_mem [105, 107] (by decide +kernel)
set_option maxRecDepth 20000 in
theorem wl_wsX60 : ∀ w ∈ wsX60, w ∈ gBig := wl_mem [120, 122] (by decide +kernel)
set_option maxRecDepth 20000 in
theorem wl_wsJ40 : ∀ w ∈ wsJ40, w ∈ gBig := wl_mem [833, 835, 837, 839] (by decide +kernel)
