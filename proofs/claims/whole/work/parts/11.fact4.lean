theorem mk_260 : okm_ 260 := ⟨List.mem_append_right _ (List.mem_of_getElem? (i := 1729) (by decide +kernel)), List.mem_append_right _ (List.mem_of_getElem? (i := 16) (by decide +kernel)), ⟨by decide +kernel, by decide +kernel, by decide +kernel, by decide +kernel⟩, by decide +kernel, by decide +kernel, fun _ => ⟨List.mem_append_right _ (List.mem_of_getElem? (i := 1727) (by decide +kernel)), List.mem_append_right _ (List.mem_of_getElem? (i := 1728) (by decide +kernel))⟩, fun h => absurd h (by decide), fun h => absurd h (by decide)⟩
theorem mk_261 : okm_ 261 := ⟨List.mem_append_right _ (List.mem_of_getElem? (i := 1745) (by decide +kernel)), List.mem_append_right _ (List.mem_of_getElem? (i := 16) (by decide +kernel)), ⟨by decide +kernel, by decide +kernel, by decide +kernel, by decide +kernel⟩, by decide +kernel, by decide +kernel, fun _ => ⟨List.mem_append_right _ (List.mem_of_getElem? (i := 1744) (by decide +kernel)), List.mem_append_left _ (List.mem_of_getElem? (i := 97) (by decide +kernel))⟩, fun h => absurd h (by decide), fun h => absurd h (by decide)⟩
theorem mk_262 : okm_ 262 := ⟨List.mem_append_right _ (List.mem_of_getElem? (i := 1741) (by decide +kernel)), List.mem_append_right _ (List.mem_of_getElem? (i := 16) (by decide +kernel)), ⟨by decide +kernel, by decide +kernel, by decide +kernel, by decide +kernel⟩, by decide +kernel, by decide +kernel, fun _ => ⟨List.mem_append_right _ (List.mem_of_getElem? (i := 1740) (by decide +kernel)), List.mem_append_left _ (List.mem_of_getElem? (i := 96) (by decide +kernel))⟩, fun h => absurd h (by decide), fun h => absurd h (by decide)⟩
theorem mk_263 : okm_ 263 := ⟨List.mem_append_right _ (List.mem_of_getElem? (i := 1756) (by decide +kernel)), List.mem_append_right _ (List.mem_of_getElem? (i := 16) (by decide +kernel)), ⟨by decide +kernel, by decide +kernel, by decide +kernel, by decide +kernel⟩, by decide +kernel, by decide +kernel, fun h => absurd h (by decide), fun _ => List.mem_append_right _ (List.mem_of_getElem? (i := 1755) (by decide +kernel)), fun h => absurd h (by decide)⟩
theorem mk_264 : okm_ 264 := ⟨List.mem_append_right _ (List.mem_of_getElem? (i := 1737) (by decide +kernel)), List.mem_append_right _ (List.mem_of_getElem? (i := 16) (by decide +kernel)), ⟨by decide +kernel, by decide +kernel, by decide +kernel, by decide +kernel⟩, by decide +kernel, by decide +kernel, fun _ => ⟨List.mem_append_right _ (List.mem_of_getElem? (i := 1735) (by decide +kernel)), List.mem_append_right _ (List.mem_of_getElem? (i := 1736) (by decide +kernel))⟩, fun h => absurd h (by decide), fun h => absurd h (by decide)⟩
theorem mk_265 : okm_ 265 := ⟨List.mem_append_right _ (List.mem_of_getElem? (i := 1749) (by decide +kernel)), List.mem_append_right _ (List.mem_of_getElem? (i := 16) (by decide +kernel)), ⟨by decide +kernel, by decide +kernel, by decide +kernel, by decide +kernel⟩, by decide +kernel, by decide +kernel, fun _ => ⟨List.mem_append_right _ (List.mem_of_getElem? (i := 1747) (by decide +kernel)), List.mem_append_right _ (List.mem_of_getElem? (i := 1748) (by decide +kernel))⟩, fun h => absurd h (by decide), fun h => absurd h (by decide)⟩
theorem mk_266 : okm_ 266 := ⟨List.mem_append_right _ (List.mem_of_getElem? (i := 1753) (by decide +kernel)), List.mem_append_right _ (List.mem_of_getElem? (i := 16) (by decide +kernel)), ⟨by decide +kernel, by decide +kernel, by decide +kernel, by decide +kernel⟩, by decide +kernel, by decide +kernel, fun _ => ⟨List.mem_append_right _ (List.mem_of_getElem? (i := 1751) (by decide +kernel)), List.mem_append_right _ (List.mem_of_getElem? (i := 1752) (by decide +kernel))⟩, fun h => absurd h (by decide), fun h => absurd h (by decide)⟩
theorem mk_267 : okm_ 267 := ⟨List.mem_append_right _ (List.mem_of_getElem? (i := 1783) (by decide +kernel)), List.mem_append_right _ (List.mem_of_getElem? (i := 16) (by decide +kernel)), ⟨by decide +kernel, by decide +kernel, by decide +kernel, by decide +kernel⟩, by decide +kernel, by decide +kernel, fun h => absurd h (by decide), fun _ => List.mem_append_right _ (List.mem_of_getElem? (i := 1782) (by decide +kernel)), fun h => absurd h (by decide)⟩
theorem mk_268 : okm_ 268 := ⟨List.mem_append_right _ (List.mem_of_getElem? (i := 1780) (by decide +kernel)), List.mem_append_right _ (List.mem_of_getElem? (i := 16) (by decide +kernel)), ⟨by decide +kernel, by decide +kernel, by decide +kernel, by decide +kernel⟩, by decide +kernel, by decide +kernel, fun _ => ⟨List.mem_append_right _ (List.mem_of_getElem? (i := 1779) (by decide +kernel)), List.mem_append_left _ (List.mem_of_getElem? (i := 102) (by decide +kernel))⟩, fun h => absurd h (by decide), fun h => absurd h (by decide)⟩
theorem mk_269 : okm_ 269 := ⟨List.mem_append_right _ (List.mem_of_getElem? (i := 1776) (by decide +kernel)), List.mem_append_right _ (List.mem_of_getElem? (i := 16) (by decide +kernel)), ⟨by decide +kernel, by decide +kernel, by decide +kernel, by decide +kernel⟩, by decide +kernel, by decide +kernel, fun _ => ⟨List.mem_append_right _ (List.mem_of_getElem? (i := 1775) (by decide +kernel)), List.mem_append_left _ (List.mem_of_getElem? (i := 101) (by decide +kernel))⟩, fun h => absurd h (by decide), fun h => absurd h (by decide)⟩
theorem mk_270 : okm_ 270 := ⟨List.mem_append_right _ (List.mem_of_getElem? (i := 1772) (by decide +kernel)), List.mem_append_right _ (List.mem_of_getElem? (i := 16) (by decide +kernel)), ⟨by decide +kernel, by decide +kernel, by decide +kernel, by decide +kernel⟩, by decide +kernel, by decide +kernel, fun _ => ⟨List.mem_append_right _ (List.mem_of_getElem? (i := 1771) (by decide +kernel)), List.mem_append_left _ (List.mem_of_getElem? (i := 100) (by decide +kernel))⟩, fun h => absurd h (by decide), fun h => absurd h (by decide)⟩
theorem mk_271 : okm_ 271 := ⟨List.mem_append_right _ (List.mem_of_getElem? (i := 1791) (by decide +kernel)), List.mem_append_right _ (List.mem_of_getElem? (i := 16) (by decide +kernel)), ⟨by decide +kernel, by decide +kernel, by decide +kernel, by decide +kernel⟩, by decide +kernel, by decide +kernel, fun _ => ⟨List.mem_append_right _ (List.mem_of_getElem? (i := 1790) (by decide +kernel)), List.mem_append_left _ (List.mem_of_getElem? (i := 103) (by decide +kernel))⟩, fun h => absurd h (by decide), fun h => absurd h (by decide)⟩
theorem mk_272 : okm_ 272 := ⟨List.mem_append_right _ (List.mem_of_getElem? (i := 1768) (by decide +kernel)), List.mem_append_right _ (List.mem_of_getElem? (i := 16) (by decide +kernel)), ⟨by decide +kernel, by decide +kernel, by decide +kernel, by decide +kernel⟩, by decide +kernel, by decide +kernel, fun _ => ⟨List.mem_append_right _ (List.mem_of_getElem? (i := 1767) (by decide +kernel)), List.mem_append_left _ (List.mem_of_getElem? (i := 99) (by decide +kernel))⟩, fun h => absurd h (by decide), fun h => absurd h (by decide)⟩
theorem mk_273 : okm_ 273 := ⟨List.mem_append_right _ (List.mem_of_getElem? (i := 1764) (by decide +kernel)), List.mem_append_right _ (List.mem_of_getElem? (i := 16) (by decide +kernel)), ⟨by decide +kernel, by decide +kernel, by decide +kernel, by decide +kernel⟩, by decide +kernel, by decide +kernel, fun _ => ⟨List.mem_append_right _ (List.mem_of_getElem? (i := 1763) (by decide +kernel)), List.mem_append_left _ (List.mem_of_getElem? (i := 98) (by decide +kernel))⟩, fun h => absurd h (by decide), fun h => absurd h (by decide)⟩
theorem mk_274 : okm_ 274 := ⟨List.mem_append_right _ (List.mem_of_getElem? (i := 1760) (by decide +kernel)), List.mem_append_right _ (List.mem_of_getElem? (i := 16) (by decide +kernel)), ⟨by decide +kernel, by decide +kernel, by decide +kernel, by decide +kernel⟩, by decide +kernel, by decide +kernel, fun _ => ⟨List.mem_append_right _ (List.mem_of_getElem? (i := 1758) (by decide +kernel)), List.mem_append_right _ (List.mem_of_getElem? (i := 1759) (by decide +kernel))⟩, fun h => absurd h (by decide), fun h => absurd h (by decide)⟩
theorem mk_275 : okm_ 275 := ⟨List.mem_append_right _ (List.mem_of_getElem? (i := 1787) (by decide +kernel)), List.mem_append_right _ (List.mem_of_getElem? (i := 16) (by decide +kernel)), ⟨by decide +kernel, by decide +kernel, by decide +kernel, by decide +kernel⟩, by decide +kernel, by decide +kernel, fun _ => ⟨List.mem_append_right _ (List.mem_of_getElem? (i := 1785) (by decide +kernel)), List.mem_append_right _ (List.mem_of_getElem? (i := 1786) (by decide +kernel))⟩, fun h => absurd h (by decide), fun h => absurd h (by decide)⟩
theorem mk_276 : okm_ 276 := ⟨List.mem_append_right _ (List.mem_of_getElem? (i := 1795) (by decide +kernel)), List.mem_append_right _ (List.mem_of_getElem? (i := 16) (by decide +kernel)), ⟨by decide +kernel, by decide +kernel, by decide +kernel, by decide +kernel⟩, by decide +kernel, by decide +kernel, fun _ => ⟨List.mem_append_right _ (List.mem_of_getElem? (i := 1793) (by decide +kernel)), List.mem_append_right _ (List.mem_of_getElem? (i := 1794) (by decide +kernel))⟩, fun h => absurd h (by decide), fun h => absurd h (by decide)⟩
theorem mk_277 : okm_ 277 := ⟨List.mem_append_right _ (List.mem_of_getElem? (i := 1799) (by decide +kernel)), List.mem_append_right _ (List.mem_of_getElem? (i := 16) (by decide +kernel)), ⟨by decide +kernel, by decide +kernel, by decide +kernel, by decide +kernel⟩, by decide +kernel, by decide +kernel, fun _ => ⟨List.mem_append_right _ (List.mem_of_getElem? (i := 1797) (by decide +kernel)), List.mem_append_right _ (List.mem_of_getElem? (i := 1798) (by decide +kernel))⟩, fun h => absurd h (by decide), fun h => absurd h (by decide)⟩
theorem mk_278 : okm_ 278 := ⟨List.mem_append_right _ (List.mem_of_getElem? (i := 1807) (by decide +kernel)), List.mem_append_right _ (List.mem_of_getElem? (i := 16) (by decide +kernel)), ⟨by decide +kernel, by decide +kernel, by decide +kernel, by decide +kernel⟩, by decide +kernel, by decide +kernel, fun _ => ⟨List.mem_append_right _ (List.mem_of_getElem? (i := 1806) (by decide +kernel)), List.mem_append_left _ (List.mem_of_getElem? (i := 104) (by decide +kernel))⟩, fun h => absurd h (by decide), fun h => absurd h (by decide)⟩
theorem mk_279 : okm_ 279 := ⟨List.mem_append_right _ (List.mem_of_getElem? (i := 1803) (by decide +kernel)), List.mem_append_right _ (List.mem_of_getElem? (i := 16) (by decide +kernel)), ⟨by decide +kernel, by decide +kernel, by decide +kernel, by decide +kernel⟩, by decide +kernel, by decide +kernel, fun _ => ⟨List.mem_append_right _ (List.mem_of_getElem? (i := 1801) (by decide +kernel)), List.mem_append_right _ (List.mem_of_getElem? (i := 1802) (by decide +kernel))⟩, fun h => absurd h (by decide), fun h => absurd h (by decide)⟩
theorem mk_280 : okm_ 280 := ⟨List.mem_append_right _ (List.mem_of_getElem? (i := 1811) (by decide +kernel)), List.mem_append_right _ (List.mem_of_getElem? (i := 16) (by decide +kernel)), ⟨by decide +kernel, by decide +kernel, by decide +kernel, by decide +kernel⟩, by decide +kernel, by decide +kernel, fun _ => ⟨List.mem_append_right _ (List.mem_of_getElem? (i := 1809) (by decide +kernel)), List.mem_append_right _ (List.mem_of_getElem? (i := 1810) (by decide +kernel))⟩, fun h => absurd h (by decide), fun h => absurd h (by decide)⟩
theorem mk_281 : okm_ 281 := ⟨List.mem_append_right _ (List.mem_of_getElem? (i := 1815) (by decide +kernel)), List.mem_append_right _ (List.mem_of_getElem? (i := 16) (by decide +kernel)), ⟨by decide +kernel, by decide +kernel, by decide +kernel, by decide +kernel⟩, by decide +kernel, by decide +kernel, fun _ => ⟨List.mem_append_right _ (List.mem_of_getElem? (i := 1813) (by decide +kernel)), List.mem_append_right _ (List.mem_of_getElem? (i := 1814) (by decide +kernel))⟩, fun h => absurd h (by decide), fun h => absurd h (by decide)⟩
theorem mk_282 : okm_ 282 := ⟨List.mem_append_right _ (List.mem_of_getElem? (i := 1819) (by decide +kernel)), List.mem_append_right _ (List.mem_of_getElem? (i := 16) (by decide +kernel)), ⟨by decide +kernel, by decide +kernel, by decide +kernel, by decide +kernel⟩, by decide +kernel, by decide +kernel, fun _ => ⟨List.mem_append_right _ (List.mem_of_getElem? (i := 1817) (by decide +kernel)), List.mem_append_right _ (List.mem_of_getElem? (i := 1818) (by decide +kernel))⟩, fun h => absurd h (by decide), fun h => absurd h (by decide)⟩
theorem mk_283 : okm_ 283 := ⟨List.mem_append_right _ (List.mem_of_getElem? (i := 1827) (by decide +kernel)), List.mem_append_right _ (List.mem_of_getElem? (i := 16) (by decide +kernel)), ⟨by decide +kernel, by decide +kernel, by decide +kernel, by decide +kernel⟩, by decide +kernel, by decide +kernel, fun _ => ⟨List.mem_append_right _ (List.mem_of_getElem? (i := 1826) (by decide +kernel)), List.mem_append_left _ (List.mem_of_getElem? (i := 105) (by decide +kernel))⟩, fun h => absurd h (by decide), fun h => absurd h (by decide)⟩
theorem mk_284 : okm_ 284 := ⟨List.mem_append_right _ (List.mem_of_getElem? (i := 1823) (by decide +kernel)), List.mem_append_right _ (List.mem_of_getElem? (i := 16) (by decide +kernel)), ⟨by decide +kernel, by decide +kernel, by decide +kernel, by decide +kernel⟩, by decide +kernel, by decide +kernel, fun _ => ⟨List.mem_append_right _ (List.mem_of_getElem? (i := 1821) (by decide +kernel)), List.mem_append_right _ (List.mem_of_getElem? (i := 1822) (by decide +kernel))⟩, fun h => absurd h (by decide), fun h => absurd h (by decide)⟩
theorem mk_285 : okm_ 285 := ⟨List.mem_append_right _ (List.mem_of_getElem? (i := 1831) (by decide +kernel)), List.mem_append_right _ (List.mem_of_getElem? (i := 16) (by decide +kernel)), ⟨by decide +kernel, by decide +kernel, by decide +kernel, by decide +kernel⟩, by decide +kernel, by decide +kernel, fun _ => ⟨List.mem_append_right _ (List.mem_of_getElem? (i := 1829) (by decide +kernel)), List.mem_append_right _ (List.mem_of_getElem? (i := 1830) (by decide +kernel))⟩, fun h => absurd h (by decide), fun h => absurd h (by decide)⟩
theorem mk_286 : okm_ 286 := ⟨List.mem_append_right _ (List.mem_of_getElem? (i := 1835) (by decide +kernel)), List.mem_append_right _ (List.mem_of_getElem? (i := 16) (by decide +kernel)), ⟨by decide +kernel, by decide +kernel, by decide +kernel, by decide +kernel⟩, by decide +kernel, by decide +kernel, fun _ => ⟨List.mem_append_right _ (List.mem_of_getElem? (i := 1833) (by decide +kernel)), List.mem_append_right _ (List.mem_of_getElem? (i := 1834) (by decide +kernel))⟩, fun h => absurd h (by decide), fun h => absurd h (by decide)⟩
theorem mk_287 : okm_ 287 := ⟨List.mem_append_right _ (List.mem_of_getElem? (i := 1853) (by decide +kernel)), List.mem_append_right _ (List.mem_of_getElem? (i := 16) (by decide +kernel)), ⟨by decide +kernel, by decide +kernel, by decide +kernel, by decide +kernel⟩, by decide +kernel, by decide +kernel, fun _ => ⟨List.mem_append_right _ (List.mem_of_getElem? (i := 1852) (by decide +kernel)), List.mem_append_left _ (List.mem_of_getElem? (i := 108) (by decide +kernel))⟩, fun h => absurd h (by decide), fun h => absurd h (by decide)⟩
theorem mk_288 : okm_ 288 := ⟨List.mem_append_right _ (List.mem_of_getElem? (i := 1871) (by decide +kernel)), List.mem_append_right _ (List.mem_of_getElem? (i := 16) (by decide +kernel)), ⟨by decide +kernel, by decide +kernel, by decide +kernel, by decide +kernel⟩, by decide +kernel, by decide +kernel, fun _ => ⟨List.mem_append_right _ (List.mem_of_getElem? (i := 1870) (by decide +kernel)), List.mem_append_left _ (List.mem_of_getElem? (i := 110) (by decide +kernel))⟩, fun h => absurd h (by decide), fun h => absurd h (by decide)⟩
theorem mk_289 : okm_ 289 := ⟨List.mem_append_right _ (List.mem_of_getElem? (i := 1848) (by decide +kernel)), List.mem_append_right _ (List.mem_of_getElem? (i := 16) (by decide +kernel)), ⟨by decide +kernel, by decide +kernel, by decide +kernel, by decide +kernel⟩, by decide +kernel, by decide +kernel, fun _ => ⟨List.mem_append_right _ (List.mem_of_getElem? (i := 1847) (by decide +kernel)), List.mem_append_left _ (List.mem_of_getElem? (i := 107) (by decide +kernel))⟩, fun h => absurd h (by decide), fun h => absurd h (by decide)⟩
theorem mk_290 : okm_ 290 := ⟨List.mem_append_right _ (List.mem_of_getElem? (i := 1859) (by decide +kernel)), List.mem_append_right _ (List.mem_of_getElem? (i := 16) (by decide +kernel)), ⟨by decide +kernel, by decide +kernel, by decide +kernel, by decide +kernel⟩, by decide +kernel, by decide +kernel, fun _ => ⟨List.mem_append_right _ (List.mem_of_getElem? (i := 1858) (by decide +kernel)), List.mem_append_left _ (List.mem_of_getElem? (i := 109) (by decide +kernel))⟩, fun h => absurd h (by decide), fun h => absurd h (by decide)⟩
theorem mk_291 : okm_ 291 := ⟨List.mem_append_right _ (List.mem_of_getElem? (i := 1844) (by decide +kernel)), List.mem_append_right _ (List.mem_of_getElem? (i := 16) (by decide +kernel)), ⟨by decide +kernel, by decide +kernel, by decide +kernel, by decide +kernel⟩, by decide +kernel, by decide +kernel, fun _ => ⟨List.mem_append_right _ (List.mem_of_getElem? (i := 1842) (by decide +kernel)), List.mem_append_right _ (List.mem_of_getElem? (i := 1843) (by decide +kernel))⟩, fun h => absurd h (by decide), fun h => absurd h (by decide)⟩
theorem mk_292 : okm_ 292 := ⟨List.mem_append_right _ (List.mem_of_getElem? (i := 1863) (by decide +kernel)), List.mem_append_right _ (List.mem_of_getElem? (i := 16) (by decide +kernel)), ⟨by decide +kernel, by decide +kernel, by decide +kernel, by decide +kernel⟩, by decide +kernel, by decide +kernel, fun _ => ⟨List.mem_append_right _ (List.mem_of_getElem? (i := 1861) (by decide +kernel)), List.mem_append_right _ (List.mem_of_getElem? (i := 1862) (by decide +kernel))⟩, fun h => absurd h (by decide), fun h => absurd h (by decide)⟩
theorem mk_293 : okm_ 293 := ⟨List.mem_append_right _ (List.mem_of_getElem? (i := 1867) (by decide +kernel)), List.mem_append_right _ (List.mem_of_getElem? (i := 16) (by decide +kernel)), ⟨by decide +kernel, by decide +kernel, by decide +kernel, by decide +kernel⟩, by decide +kernel, by decide +kernel, fun _ => ⟨List.mem_append_right _ (List.mem_of_getElem? (i := 1865) (by decide +kernel)), List.mem_append_right _ (List.mem_of_getElem? (i := 1866) (by decide +kernel))⟩, fun h => absurd h (by decide), fun h => absurd h (by decide)⟩
theorem mk_294 : okm_ 294 := ⟨List.mem_append_right _ (List.mem_of_getElem? (i := 1875) (by decide +kernel)), List.mem_append_right _ (List.mem_of_getElem? (i := 16) (by decide +kernel)), ⟨by decide +kernel, by decide +kernel, by decide +kernel, by decide +kernel⟩, by decide +kernel, by decide +kernel, fun _ => ⟨List.mem_append_right _ (List.mem_of_getElem? (i := 1873) (by decide +kernel)), List.mem_append_right _ (List.mem_of_getElem? (i := 1874) (by decide +kernel))⟩, fun h => absurd h (by decide), fun h => absurd h (by decide)⟩
theorem mk_295 : okm_ 295 := ⟨List.mem_append_right _ (List.mem_of_getElem? (i := 1879) (by decide +kernel)), List.mem_append_right _ (List.mem_of_getElem? (i := 16) (by decide +kernel)), ⟨by decide +kernel, by decide +kernel, by decide +kernel, by decide +kernel⟩, by decide +kernel, by decide +kernel, fun _ => ⟨List.mem_append_right _ (List.mem_of_getElem? (i := 1877) (by decide +kernel)), List.mem_append_right _ (List.mem_of_getElem? (i := 1878) (by decide +kernel))⟩, fun h => absurd h (by decide), fun h => absurd h (by decide)⟩
theorem mk_296 : okm_ 296 := ⟨List.mem_append_right _ (List.mem_of_getElem? (i := 1883) (by decide +kernel)), List.mem_append_right _ (List.mem_of_getElem? (i := 16) (by decide +kernel)), ⟨by decide +kernel, by decide +kernel, by decide +kernel, by decide +kernel⟩, by decide +kernel, by decide +kernel, fun _ => ⟨List.mem_append_right _ (List.mem_of_getElem? (i := 1881) (by decide +kernel)), List.mem_append_right _ (List.mem_of_getElem? (i := 1882) (by decide +kernel))⟩, fun h => absurd h (by decide), fun h => absurd h (by decide)⟩
theorem mk_297 : okm_ 297 := ⟨List.mem_append_right _ (List.mem_of_getElem? (i := 1887) (by decide +kernel)), List.mem_append_right _ (List.mem_of_getElem? (i := 16) (by decide +kernel)), ⟨by decide +kernel, by decide +kernel, by decide +kernel, by decide +kernel⟩, by decide +kernel, by decide +kernel, fun _ => ⟨List.mem_append_right _ (List.mem_of_getElem? (i := 1885) (by decide +kernel)), List.mem_append_right _ (List.mem_of_getElem? (i := 1886) (by decide +kernel))⟩, fun h => absurd h (by decide), fun h => absurd h (by decide)⟩
theorem mk_298 : okm_ 298 := ⟨List.mem_append_right _ (List.mem_of_getElem? (i := 1895) (by decide +kernel)), List.mem_append_right _ (List.mem_of_getElem? (i := 16) (by decide +kernel)), ⟨by decide +kernel, by decide +kernel, by decide +kernel, by decide +kernel⟩, by decide +kernel, by decide +kernel, fun _ => ⟨List.mem_append_right _ (List.mem_of_getElem? (i := 1894) (by decide +kernel)), List.mem_append_left _ (List.mem_of_getElem? (i := 111) (by decide +kernel))⟩, fun h => absurd h (by decide), fun h => absurd h (by decide)⟩
theorem mk_299 : okm_ 299 := ⟨List.mem_append_right _ (List.mem_of_getElem? (i := 1891) (by decide +kernel)), List.mem_append_right _ (List.mem_of_getElem? (i := 16) (by decide +kernel)), ⟨by decide +kernel, by decide +kernel, by decide +kernel, by decide +kernel⟩, by decide +kernel, by decide +kernel, fun _ => ⟨List.mem_append_right _ (List.mem_of_getElem? (i := 1889) (by decide +kernel)), List.mem_append_right _ (List.mem_of_getElem? (i := 1890) (by decide +kernel))⟩, fun h => absurd h (by decide), fun h => absurd h (by decide)⟩
theorem mk_300 : okm_ 300 := ⟨List.mem_append_right _ (List.mem_of_getElem? (i := 1906) (by decide +kernel)), List.mem_append_right _ (List.mem_of_getElem? (i := 16) (by decide +kernel)), ⟨by decide +kernel, by decide +kernel, by decide +kernel, by decide +kernel⟩, by decide +kernel, by decide +kernel, fun h => absurd h (by decide), fun _ => List.mem_append_right _ (List.mem_of_getElem? (i := 1905) (by decide +kernel)), fun h => absurd h (by decide)⟩
theorem mk_301 : okm_ 301 := ⟨List.mem_append_right _ (List.mem_of_getElem? (i := 1903) (by decide +kernel)), List.mem_append_right _ (List.mem_of_getElem? (i := 16) (by decide +kernel)), ⟨by decide +kernel, by decide +kernel, by decide +kernel, by decide +kernel⟩, by decide +kernel, by decide +kernel, fun _ => ⟨List.mem_append_right _ (List.mem_of_getElem? (i := 1902) (by decide +kernel)), List.mem_append_left _ (List.mem_of_getElem? (i := 112) (by decide +kernel))⟩, fun h => absurd h (by decide), fun h => absurd h (by decide)⟩
theorem mk_302 : okm_ 302 := ⟨List.mem_append_right _ (List.mem_of_getElem? (i := 1899) (by decide +kernel)), List.mem_append_right _ (List.mem_of_getElem? (i := 16) (by decide +kernel)), ⟨by decide +kernel, by decide +kernel, by decide +kernel, by decide +kernel⟩, by decide +kernel, by decide +kernel, fun _ => ⟨List.mem_append_right _ (List.mem_of_getElem? (i := 1897) (by decide +kernel)), List.mem_append_right _ (List.mem_of_getElem? (i := 1898) (by decide +kernel))⟩, fun h => absurd h (by decide), fun h => absurd h (by decide)⟩
theorem mk_303 : okm_ 303 := ⟨List.mem_append_right _ (List.mem_of_getElem? (i := 1921) (by decide +kernel)), List.mem_append_right _ (List.mem_of_getElem? (i := 16) (by decide +kernel)), ⟨by decide +kernel, by decide +kernel, by decide +kernel, by decide +kernel⟩, by decide +kernel, by decide +kernel, fun _ => ⟨List.mem_append_right _ (List.mem_of_getElem? (i := 1920) (by decide +kernel)), List.mem_append_left _ (List.mem_of_getElem? (i := 114) (by decide +kernel))⟩, fun h => absurd h (by decide), fun h => absurd h (by decide)⟩
theorem mk_304 : okm_ 304 := ⟨List.mem_append_right _ (List.mem_of_getElem? (i := 1917) (by decide +kernel)), List.mem_append_right _ (List.mem_of_getElem? (i := 16) (by decide +kernel)), ⟨by decide +kernel, by decide +kernel, by decide +kernel, by decide +kernel⟩, by decide +kernel, by decide +kernel, fun _ => ⟨List.mem_append_right _ (List.mem_of_getElem? (i := 1915) (by decide +kernel)), List.mem_append_right _ (List.mem_of_getElem? (i := 1916) (by decide +kernel))⟩, fun h => absurd h (by decide), fun h => absurd h (by decide)⟩
theorem mk_305 : okm_ 305 := ⟨List.mem_append_right _ (List.mem_of_getElem? (i := 1925) (by decide +kernel)), List.mem_append_right _ (List.mem_of_getElem? (i := 16) (by decide +kernel)), ⟨by decide +kernel, by decide +kernel, by decide +kernel, by decide +kernel⟩, by decide +kernel, by decide +kernel, fun _ => ⟨List.mem_append_right _ (List.mem_of_getElem? (i := 1923) (by decide +kernel)), List.mem_append_right _ (List.mem_of_getElem? (i := 1924) (by decide +kernel))⟩, fun h => absurd h (by decide), fun h => absurd h (by decide)⟩
theorem mk_306 : okm_ 306 := ⟨List.mem_append_right _ (List.mem_of_getElem? (i := 1937) (by decide +kernel)), List.mem_append_right _ (List.mem_of_getElem? (i := 16) (by decide +kernel)), ⟨by decide +kernel, by decide +kernel, by decide +kernel, by decide +kernel⟩, by decide +kernel, by decide +kernel, fun _ => ⟨List.mem_append_right _ (List.mem_of_getElem? (i := 1936) (by decide +kernel)), List.mem_append_left _ (List.mem_of_getElem? (i := 116) (by decide +kernel))⟩, fun h => absurd h (by decide), fun h => absurd h (by decide)⟩
theorem mk_307 : okm_ 307 := ⟨List.mem_append_right _ (List.mem_of_getElem? (i := 1933) (by decide +kernel)), List.mem_append_right _ (List.mem_of_getElem? (i := 16) (by decide +kernel)), ⟨by decide +kernel, by decide +kernel, by decide +kernel, by decide +kernel⟩, by decide +kernel, by decide +kernel, fun _ => ⟨List.mem_append_right _ (List.mem_of_getElem? (i := 1932) (by decide +kernel)), List.mem_append_left _ (List.mem_of_getElem? (i := 115) (by decide +kernel))⟩, fun h => absurd h (by decide), fun h => absurd h (by decide)⟩
theorem mk_308 : okm_ 308 := ⟨List.mem_append_right _ (List.mem_of_getElem? (i := 1941) (by decide +kernel)), List.mem_append_right _ (List.mem_of_getElem? (i := 16) (by decide +kernel)), ⟨by decide +kernel, by decide +kernel, by decide +kernel, by decide +kernel⟩, by decide +kernel, by decide +kernel, fun _ => ⟨List.mem_append_right _ (List.mem_of_getElem? (i := 1940) (by decide +kernel)), List.mem_append_left _ (List.mem_of_getElem? (i := 117) (by decide +kernel))⟩, fun h => absurd h (by decide), fun h => absurd h (by decide)⟩
theorem mk_309 : okm_ 309 := ⟨List.mem_append_right _ (List.mem_of_getElem? (i := 1929) (by decide +kernel)), List.mem_append_right _ (List.mem_of_getElem? (i := 16) (by decide +kernel)), ⟨by decide +kernel, by decide +kernel, by decide +kernel, by decide +kernel⟩, by decide +kernel, by decide +kernel, fun _ => ⟨List.mem_append_right _ (List.mem_of_getElem? (i := 1927) (by decide +kernel)), List.mem_append_right _ (List.mem_of_getElem? (i := 1928) (by decide +kernel))⟩, fun h => absurd h (by decide), fun h => absurd h (by decide)⟩
theorem mk_310 : okm_ 310 := ⟨List.mem_append_right _ (List.mem_of_getElem? (i := 1945) (by decide +kernel)), List.mem_append_right _ (List.mem_of_getElem? (i := 16) (by decide +kernel)), ⟨by decide +kernel, by decide +kernel, by decide +kernel, by decide +kernel⟩, by decide +kernel, by decide +kernel, fun _ => ⟨List.mem_append_right _ (List.mem_of_getElem? (i := 1943) (by decide +kernel)), List.mem_append_right _ (List.mem_of_getElem? (i := 1944) (by decide +kernel))⟩, fun h => absurd h (by decide), fun h => absurd h (by decide)⟩
theorem mk_311 : okm_ 311 := ⟨List.mem_append_right _ (List.mem_of_getElem? (i := 1949) (by decide +kernel)), List.mem_append_right _ (List.mem_of_getElem? (i := 16) (by decide +kernel)), ⟨by decide +kernel, by decide +kernel, by decide +kernel, by decide +kernel⟩, by decide +kernel, by decide +kernel, fun _ => ⟨List.mem_append_right _ (List.mem_of_getElem? (i := 1947) (by decide +kernel)), List.mem_append_right _ (List.mem_of_getElem? (i := 1948) (by decide +kernel))⟩, fun h => absurd h (by decide), fun h => absurd h (by decide)⟩
theorem mk_312 : okm_ 312 := ⟨List.mem_append_right _ (List.mem_of_getElem? (i := 1986) (by decide +kernel)), List.mem_append_right _ (List.mem_of_getElem? (i := 16) (by decide +kernel)), ⟨by decide +kernel, by decide +kernel, by decide +kernel, by decide +kernel⟩, by decide +kernel, by decide +kernel, fun _ => ⟨List.mem_append_right _ (List.mem_of_getElem? (i := 1985) (by decide +kernel)), List.mem_append_left _ (List.mem_of_getElem? (i := 125) (by decide +kernel))⟩, fun h => absurd h (by decide), fun h => absurd h (by decide)⟩
theorem mk_313 : okm_ 313 := ⟨List.mem_append_right _ (List.mem_of_getElem? (i := 1974) (by decide +kernel)), List.mem_append_right _ (List.mem_of_getElem? (i := 16) (by decide +kernel)), ⟨by decide +kernel, by decide +kernel, by decide +kernel, by decide +kernel⟩, by decide +kernel, by decide +kernel, fun _ => ⟨List.mem_append_right _ (List.mem_of_getElem? (i := 1973) (by decide +kernel)), List.mem_append_left _ (List.mem_of_getElem? (i := 122) (by decide +kernel))⟩, fun h => absurd h (by decide), fun h => absurd h (by decide)⟩
theorem mk_314 : okm_ 314 := ⟨List.mem_append_right _ (List.mem_of_getElem? (i := 1978) (by decide +kernel)), List.mem_append_right _ (List.mem_of_getElem? (i := 16) (by decide +kernel)), ⟨by decide +kernel, by decide +kernel, by decide +kernel, by decide +kernel⟩, by decide +kernel, by decide +kernel, fun _ => ⟨List.mem_append_right _ (List.mem_of_getElem? (i := 1977) (by decide +kernel)), List.mem_append_left _ (List.mem_of_getElem? (i := 123) (by decide +kernel))⟩, fun h => absurd h (by decide), fun h => absurd h (by decide)⟩
theorem mk_315 : okm_ 315 := ⟨List.mem_append_right _ (List.mem_of_getElem? (i := 1982) (by decide +kernel)), List.mem_append_right _ (List.mem_of_getElem? (i := 16) (by decide +kernel)), ⟨by decide +kernel, by decide +kernel, by decide +kernel, by decide +kernel⟩, by decide +kernel, by decide +kernel, fun _ => ⟨List.mem_append_right _ (List.mem_of_getElem? (i := 1981) (by decide +kernel)), List.mem_append_left _ (List.mem_of_getElem? (i := 124) (by decide +kernel))⟩, fun h => absurd h (by decide), fun h => absurd h (by decide)⟩
theorem mk_316 : okm_ 316 := ⟨List.mem_append_right _ (List.mem_of_getElem? (i := 1970) (by decide +kernel)), List.mem_append_right _ (List.mem_of_getElem? (i := 16) (by decide +kernel)), ⟨by decide +kernel, by decide +kernel, by decide +kernel, by decide +kernel⟩, by decide +kernel, by decide +kernel, fun _ => ⟨List.mem_append_right _ (List.mem_of_getElem? (i := 1969) (by decide +kernel)), List.mem_append_left _ (List.mem_of_getElem? (i := 121) (by decide +kernel))⟩, fun h => absurd h (by decide), fun h => absurd h (by decide)⟩
theorem mk_317 : okm_ 317 := ⟨List.mem_append_right _ (List.mem_of_getElem? (i := 1991) (by decide +kernel)), List.mem_append_right _ (List.mem_of_getElem? (i := 16) (by decide +kernel)), ⟨by decide +kernel, by decide +kernel, by decide +kernel, by decide +kernel⟩, by decide +kernel, by decide +kernel, fun _ => ⟨List.mem_append_right _ (List.mem_of_getElem? (i := 1990) (by decide +kernel)), List.mem_append_left _ (List.mem_of_getElem? (i := 126) (by decide +kernel))⟩, fun h => absurd h (by decide), fun h => absurd h (by decide)⟩
theorem mk_318 : okm_ 318 := ⟨List.mem_append_right _ (List.mem_of_getElem? (i := 1966) (by decide +kernel)), List.mem_append_right _ (List.mem_of_getElem? (i := 16) (by decide +kernel)), ⟨by decide +kernel, by decide +kernel, by decide +kernel, by decide +kernel⟩, by decide +kernel, by decide +kernel, fun _ => ⟨List.mem_append_right _ (List.mem_of_getElem? (i := 1965) (by decide +kernel)), List.mem_append_left _ (List.mem_of_getElem? (i := 120) (by decide +kernel))⟩, fun h => absurd h (by decide), fun h => absurd h (by decide)⟩
theorem mk_319 : okm_ 319 := ⟨List.mem_append_right _ (List.mem_of_getElem? (i := 1962) (by decide +kernel)), List.mem_append_right _ (List.mem_of_getElem? (i := 16) (by decide +kernel)), ⟨by decide +kernel, by decide +kernel, by decide +kernel, by decide +kernel⟩, by decide +kernel, by decide +kernel, fun _ => ⟨List.mem_append_right _ (List.mem_of_getElem? (i := 1961) (by decide +kernel)), List.mem_append_left _ (List.mem_of_getElem? (i := 119) (by decide +kernel))⟩, fun h => absurd h (by decide), fun h => absurd h (by decide)⟩
theorem mk_320 : okm_ 320 := ⟨List.mem_append_right _ (List.mem_of_getElem? (i := 1958) (by decide +kernel)), List.mem_append_right _ (List.mem_of_getElem? (i := 16) (by decide +kernel)), ⟨by decide +kernel, by decide +kernel, by decide +kernel, by decide +kernel⟩, by decide +kernel, by decide +kernel, fun _ => ⟨List.mem_append_right _ (List.mem_of_getElem? (i := 1957) (by decide +kernel)), List.mem_append_left _ (List.mem_of_getElem? (i := 118) (by decide +kernel))⟩, fun h => absurd h (by decide), fun h => absurd h (by decide)⟩
theorem mk_321 : okm_ 321 := ⟨List.mem_append_right _ (List.mem_of_getElem? (i := 1953) (by decide +kernel)), List.mem_append_right _ (List.mem_of_getElem? (i := 16) (by decide +kernel)), ⟨by decide +kernel, by decide +kernel, by decide +kernel, by decide +kernel⟩, by decide +kernel, by decide +kernel, fun _ => ⟨List.mem_append_right _ (List.mem_of_getElem? (i := 1951) (by decide +kernel)), List.mem_append_right _ (List.mem_of_getElem? (i := 1952) (by decide +kernel))⟩, fun h => absurd h (by decide), fun h => absurd h (by decide)⟩
theorem mk_322 : okm_ 322 := ⟨List.mem_append_right _ (List.mem_of_getElem? (i := 1995) (by decide +kernel)), List.mem_append_right _ (List.mem_of_getElem? (i := 16) (by decide +kernel)), ⟨by decide +kernel, by decide +kernel, by decide +kernel, by decide +kernel⟩, by decide +kernel, by decide +kernel, fun _ => ⟨List.mem_append_right _ (List.mem_of_getElem? (i := 1993) (by decide +kernel)), List.mem_append_right _ (List.mem_of_getElem? (i := 1994) (by decide +kernel))⟩, fun h => absurd h (by decide), fun h => absurd h (by decide)⟩
theorem mk_323 : okm_ 323 := ⟨List.mem_append_right _ (List.mem_of_getElem? (i := 1999) (by decide +kernel)), List.mem_append_right _ (List.mem_of_getElem? (i := 16) (by decide +kernel)), ⟨by decide +kernel, by decide +kernel, by decide +kernel, by decide +kernel⟩, by decide +kernel, by decide +kernel, fun _ => ⟨List.mem_append_right _ (List.mem_of_getElem? (i := 1997) (by decide +kernel)), List.mem_append_right _ (List.mem_of_getElem? (i := 1998) (by decide +kernel))⟩, fun h => absurd h (by decide), fun h => absurd h (by decide)⟩
theorem mk_324 : okm_ 324 := ⟨List.mem_append_right _ (List.mem_of_getElem? (i := 1619) (by decide +kernel)), List.mem_append_right _ (List.mem_of_getElem? (i := 16) (by decide +kernel)), ⟨by decide +kernel, by decide +kernel, by decide +kernel, by decide +kernel⟩, by decide +kernel, by decide +kernel, fun _ => ⟨List.mem_append_right _ (List.mem_of_getElem? (i := 1618) (by decide +kernel)), List.mem_append_left _ (List.mem_of_getElem? (i := 78) (by decide +kernel))⟩, fun h => absurd h (by decide), fun h => absurd h (by decide)⟩
theorem mk_325 : okm_ 325 := ⟨List.mem_append_right _ (List.mem_of_getElem? (i := 2004) (by decide +kernel)), List.mem_append_right _ (List.mem_of_getElem? (i := 16) (by decide +kernel)), ⟨by decide +kernel, by decide +kernel, by decide +kernel, by decide +kernel⟩, by decide +kernel, by decide +kernel, fun _ => ⟨List.mem_append_right _ (List.mem_of_getElem? (i := 2002) (by decide +kernel)), List.mem_append_right _ (List.mem_of_getElem? (i := 2003) (by decide +kernel))⟩, fun h => absurd h (by decide), fun h => absurd h (by decide)⟩
theorem mk_326 : okm_ 326 := ⟨List.mem_append_right _ (List.mem_of_getElem? (i := 2008) (by decide +kernel)), List.mem_append_right _ (List.mem_of_getElem? (i := 16) (by decide +kernel)), ⟨by decide +kernel, by decide +kernel, by decide +kernel, by decide +kernel⟩, by decide +kernel, by decide +kernel, fun _ => ⟨List.mem_append_right _ (List.mem_of_getElem? (i := 2006) (by decide +kernel)), List.mem_append_right _ (List.mem_of_getElem? (i := 2007) (by decide +kernel))⟩, fun h => absurd h (by decide), fun h => absurd h (by decide)⟩
theorem mk_327 : okm_ 327 := ⟨List.mem_append_right _ (List.mem_of_getElem? (i := 999) (by decide +kernel)), List.mem_append_right _ (List.mem_of_getElem? (i := 19) (by decide +kernel)), ⟨by decide +kernel, by decide +kernel, by decide +kernel, by decide +kernel⟩, by decide +kernel, by decide +kernel, fun h => absurd h (by decide), fun _ => List.mem_append_right _ (List.mem_of_getElem? (i := 998) (by decide +kernel)), fun h => absurd h (by decide)⟩
theorem mk_all (k : Nat) (h : k < 328) : okm_ k := by
  match k, h with
  | 0, _ => exact mk_0
  | 1, _ => exact mk_1
  | 2, _ => exact mk_2
  | 3, _ => exact mk_3
  | 4, _ => exact mk_4
  | 5, _ => exact mk_5
  | 6, _ => exact mk_6
  | 7, _ => exact mk_7
  | 8, _ => exact mk_8
  | 9, _ => exact mk_9
  | 10, _ => exact mk_10
  | 11, _ => exact mk_11
  | 12, _ => exact mk_12
  | 13, _ => exact mk_13
  | 14, _ => exact mk_14
  | 15, _ => exact mk_15
  | 16, _ => exact mk_16
  | 17, _ => exact mk_17
  | 18, _ => exact mk_18
  | 19, _ => exact mk_19
  | 20, _ => exact mk_20
  | 21, _ => exact mk_21
  | 22, _ => exact mk_22
  | 23, _ => exact mk_23
  | 24, _ => exact mk_24
  | 25, _ => exact mk_25
  | 26, _ => exact mk_26
  | 27, _ => exact mk_27
  | 28, _ => exact mk_28
  | 29, _ => exact mk_29
  | 30, _ => exact mk_30
  | 31, _ => exact mk_31
  | 32, _ => exact mk_32
  | 33, _ => exact mk_33
  | 34, _ => exact mk_34
  | 35, _ => exact mk_35
  | 36, _ => exact mk_36
  | 37, _ => exact mk_37
  | 38, _ => exact mk_38
  | 39, _ => exact mk_39
  | 40, _ => exact mk_40
  | 41, _ => exact mk_41
  | 42, _ => exact mk_42
  | 43, _ => exact mk_43
  | 44, _ => exact mk_44
  | 45, _ => exact mk_45
  | 46, _ => exact mk_46
  | 47, _ => exact mk_47
  | 48, _ => exact mk_48
  | 49, _ => exact mk_49
  | 50, _ => exact mk_50
  | 51, _ => exact mk_51
  | 52, _ => exact mk_52
  | 53, _ => exact mk_53
  | 54, _ => exact mk_54
  | 55, _ => exact mk_55
  | 56, _ => exact mk_56
  | 57, _ => exact mk_57
  | 58, _ => exact mk_58
  | 59, _ => exact mk_59
  | 60, _ => exact mk_60
  | 61, _ => exact mk_61
  | 62, _ => exact mk_62
  | 63, _ => exact mk_63
  | 64, _ => exact mk_64
  | 65, _ => exact mk_65
  | 66, _ => exact mk_66
  | 67, _ => exact mk_67
  | 68, _ => exact mk_68
  | 69, _ => exact mk_69
  | 70, _ => exact mk_70
  | 71, _ => exact mk_71
  | 72, _ => exact mk_72
  | 73, _ => exact mk_73
  | 74, _ => exact mk_74
  | 75, _ => exact mk_75
  | 76, _ => exact mk_76
  | 77, _ => exact mk_77
  | 78, _ => exact mk_78
  | 79, _ => exact mk_79
  | 80, _ => exact mk_80
  | 81, _ => exact mk_81
  | 82, _ => exact mk_82
  | 83, _ => exact mk_83
  | 84, _ => exact mk_84
  | 85, _ => exact mk_85
  | 86, _ => exact mk_86
  | 87, _ => exact mk_87
  | 88, _ => exact mk_88
  | 89, _ => exact mk_89
  | 90, _ => exact mk_90
  | 91, _ => exact mk_91
  | 92, _ => exact mk_92
  | 93, _ => exact mk_93
  | 94, _ => exact mk_94
  | 95, _ => exact mk_95
  | 96, _ => exact mk_96
  | 97, _ => exact mk_97
  | 98, _ => exact mk_98
  | 99, _ => exact mk_99
  | 100, _ => exact mk_100
  | 101, _ => exact mk_101
  | 102, _ => exact mk_102
  | 103, _ => exact mk_103
  | 104, _ => exact mk_104
  | 105, _ => exact mk_105
  | 106, _ => exact mk_106
  | 107, _ => exact mk_107
  | 108, _ => exact mk_108
  | 109, _ => exact mk_109
  | 110, _ => exact mk_110
  | 111, _ => exact mk_111
  | 112, _ => exact mk_112
  | 113, _ => exact mk_113
  | 114, _ => exact mk_114
  | 115, _ => exact mk_115
  | 116, _ => exact mk_116
  | 117, _ => exact mk_117
  | 118, _ => exact mk_118
  | 119, _ => exact mk_119
  | 120, _ => exact mk_120
  | 121, _ => exact mk_121
  | 122, _ => exact mk_122
  | 123, _ => exact mk_123
  | 124, _ => exact mk_124
  | 125, _ => exact mk_125
  | 126, _ => exact mk_126
  | 127, _ => exact mk_127
  | 128, _ => exact mk_128
  | 129, _ => exact mk_129
  | 130, _ => exact mk_130
  | 131, _ => exact mk_131
  | 132, _ => exact mk_132
  | 133, _ => exact mk_133
  | 134, _ => exact mk_134
  | 135, _ => exact mk_135
  | 136, _ => exact mk_136
  | 137, _ => exact mk_137
  | 138, _ => exact mk_138
  | 139, _ => exact mk_139
  | 140, _ => exact mk_140
  | 141, _ => exact mk_141
  | 142, _ => exact mk_142
  | 143, _ => exact mk_143
  | 144, _ => exact mk_144
  | 145, _ => exact mk_145
  | 146, _ => exact mk_146
  | 147, _ => exact mk_147
  | 148, _ => exact mk_148
  | 149, _ => exact mk_149
  | 150, _ => exact mk_150
  | 151, _ => exact mk_151
  | 152, _ => exact mk_152
  | 153, _ => exact mk_153
  | 154, _ => exact mk_154
  | 155, _ => exact mk_155
  | 156, _ => exact mk_156
  | 157, _ => exact mk_157
  | 158, _ => exact mk_158
  | 159, _ => exact mk_159
  | 160, _ => exact mk_160
  | 161, _ => exact mk_161
  | 162, _ => exact mk_162
  | 163, _ => exact mk_163
  | 164, _ => exact mk_164
  | 165, _ => exact mk_165
  | 166, _ => exact mk_166
  | 167, _ => exact mk_167
  | 168, _ => exact mk_168
  | 169, _ => exact mk_169
  | 170, _ => exact mk_170
  | 171, _ => exact mk_171
  | 172, _ => exact mk_172
  | 173, _ => exact mk_173
  | 174, _ => exact mk_174
  | 175, _ => exact mk_175
  | 176, _ => exact mk_176
  | 177, _ => exact mk_177
  | 178, _ => exact mk_178
  | 179, _ => exact mk_179
  | 180, _ => exact mk_180
  | 181, _ => exact mk_181
  | 182, _ => exact mk_182
  | 183, _ => exact mk_183
  | 184, _ => exact mk_184
  | 185, _ => exact mk_185
  | 186, _ => exact mk_186
  | 187, _ => exact mk_187
  | 188, _ => exact mk_188
  | 189, _ => exact mk_189
  | 190, _ => exact mk_190
  | 191, _ => exact mk_191
  | 192, _ => exact mk_192
  | 193, _ => exact mk_193
  | 194, _ => exact mk_194
  | 195, _ => exact mk_195
  | 196, _ => exact mk_196
  | 197, _ => exact mk_197
  | 198, _ => exact mk_198
  | 199, _ => exact mk_199
  | 200, _ => exact mk_200
  | 201, _ => exact mk_201
  | 202, _ => exact mk_202
  | 203, _ => exact mk_203
  | 204, _ => exact mk_204
  | 205, _ => exact mk_205
  | 206, _ => exact mk_206
  | 207, _ => exact mk_207
  | 208, _ => exact mk_208
  | 209, _ => exact mk_209
  | 210, _ => exact mk_210
  | 211, _ => exact mk_211
  | 212, _ => exact mk_212
  | 213, _ => exact mk_213
  | 214, _ => exact mk_214
  | 215, _ => exact mk_215
  | 216, _ => exact mk_216
  | 217, _ => exact mk_217
  | 218, _ => exact mk_218
  | 219, _ => exact mk_219
  | 220, _ => exact mk_220
  | 221, _ => exact mk_221
  | 222, _ => exact mk_222
  | 223, _ => exact mk_223
  | 224, _ => exact mk_224
  | 225, _ => exact mk_225
  | 226, _ => exact mk_226
  | 227, _ => exact mk_227
  | 228, _ => exact mk_228
  | 229, _ => exact mk_229
  | 230, _ => exact mk_230
  | 231, _ => exact mk_231
  | 232, _ => exact mk_232
  | 233, _ => exact mk_233
  | 234, _ => exact mk_234
  | 235, _ => exact mk_235
  | 236, _ => exact mk_236
  | 237, _ => exact mk_237
  | 238, _ => exact mk_238
  | 239, _ => exact mk_239
  | 240, _ => exact mk_240
  | 241, _ => exact mk_241
  | 242, _ => exact mk_242
  | 243, _ => exact mk_243
  | 244, _ => exact mk_244
  | 245, _ => exact mk_245
  | 246, _ => exact mk_246
  | 247, _ => exact mk_247
  | 248, _ => exact mk_248
  | 249, _ => exact mk_249
  | 250, _ => exact mk_250
  | 251, _ => exact mk_251
  | 252, _ => exact mk_252
  | 253, _ => exact mk_253
  | 254, _ => exact mk_254
  | 255, _ => exact mk_255
  | 256, _ => exact mk_256
  | 257, _ => exact mk_257
  | 258, _ => exact mk_258
  | 259, _ => exact mk_259
  | 260, _ => exact mk_260
  | 261, _ => exact mk_261
  | 262, _ => exact mk_262
  | 263, _ => exact mk_263
  | 264, _ => exact mk_264
  | 265, _ => exact mk_265
  | 266, _ => exact mk_266
  | 267, _ => exact mk_267
  | 268, _ => exact mk_268
  | 269, _ => exact mk_269
  | 270, _ => exact mk_270
  | 271, _ => exact mk_271
  | 272, _ => exact mk_272
  | 273, _ => exact mk_273
  | 274, _ => exact mk_274
  | 275, _ => exact mk_275
  | 276, _ => exact mk_276
  | 277, _ => exact mk_277
  | 278, _ => exact mk_278
  | 279, _ => exact mk_279
  | 280, _ => exact mk_280
  | 281, _ => exact mk_281
  | 282, _ => exact mk_282
  | 283, _ => exact mk_283
  | 284, _ => exact mk_284
  | 285, _ => exact mk_285
  | 286, _ => exact mk_286
  | 287, _ => exact mk_287
  | 288, _ => exact mk_288
  | 289, _ => exact mk_289
  | 290, _ => exact mk_290
  | 291, _ => exact mk_291
  | 292, _ => exact mk_292
  | 293, _ => exact mk_293
  | 294, _ => exact mk_294
  | 295, _ => exact mk_295
  | 296, _ => exact mk_296
  | 297, _ => exact mk_297
  | 298, _ => exact mk_298
  | 299, _ => exact mk_299
  | 300, _ => exact mk_300
  | 301, _ => exact mk_301
  | 302, _ => exact mk_302
  | 303, _ => exact mk_303
  | 304, _ => exact mk_304
  | 305, _ => exact mk_305
  | 306, _ => exact mk_306
  | 307, _ => exact mk_307
  | 308, _ => exact mk_308
  | 309, _ => exact mk_309
  | 310, _ => exact mk_310
  | 311, _ => exact mk_311
  | 312, _ => exact mk_312
  | 313, _ => exact mk_313
  | 314, _ => exact mk_314
  | 315, _ => exact mk_315
  | 316, _ => exact mk_316
  | 317, _ => exact mk_317
  | 318, _ => exact mk_318
  | 319, _ => exact mk_319
  | 320, _ => exact mk_320
  | 321, _ => exact mk_321
  | 322, _ => exact mk_322
  | 323, _ => exact mk_323
  | 324, _ => exact mk_324
  | 325, _ => exact mk_325
  | 326, _ => exact mk_326
  | 327, _ => exact mk_327
  | k + 328, h => omega
